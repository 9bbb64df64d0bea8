section
/-! the FAULTS in the cells (m) -/
def FLm (V : Vf) (F : FSt) : Prop := FLT (V 0 81) (V 82) (V 83) (V 84) (V 85) F ∧ F24 F
section FLmS
variable {V W V1 V2 V3 : Vf} {F : FSt} {k c d i1 i2 i3 p m : Nat} {a b g z : Int32} {Q P : Nat → Nat} {M : MSt}
theorem FLm.n (h : FLm V F) : (V 0 81).toInt = ((F.1 : Nat) : Int) := h.1.1
theorem FLm.fo (h : FLm V F) (e0 : W 0 81 = V 0 81) (e1 : W 82 = V 82) (e2 : W 83 = V 83) (e3 : W 84 = V 84) (e4 : W 85 = V 85) : FLm W F := by
  unfold FLm at h ⊢
  rw [e0, e1, e2, e3, e4]
  exact h
theorem FLm.n0 (h : FLm V F) (e : W = up2 V 0 81 z) (hz : z.toInt = (V 0 81).toInt + 1) (h1 : 100 ≤ (V 0 81).toInt) (h24 : k = 3 → d ≤ 24) : FLm W (adF F k c d Q) :=
  ⟨FLT.ad h.1 (by rw [up2_s e]; exact hz) (fun i _ _ => ⟨up2_o e (by decide), up2_o e (by decide), up2_o e (by decide), fun q _ => up2_o e (by decide)⟩) (fun i a _ => h.2 i a) (fun a => absurd h.1.1 (by omega)), h.2.ad h24⟩
theorem FLm.n1 (h : FLm V F) (e1 : V1 = up2 V 82 i1 a) (e2 : V2 = up2 V1 83 i2 b) (e3 : V3 = up2 V2 84 i3 g) (e4 : W = up2 V3 0 81 z) (hi1 : i1 = F.1) (hi2 : i2 = F.1) (hi3 : i3 = F.1) (hz : z.toInt = (V 0 81).toInt + 1) (ha : a.toInt = (k : Int)) (hb : b.toInt = (c : Int)) (hg : g.toInt = (d : Int)) (hr : k = 3 → ∀ q, q < d → (V 85 (24 * F.1 + q)).toInt = ((Q q : Nat) : Int)) (h24 : k = 3 → d ≤ 24) : FLm W (adF F k c d Q) := by
  subst hi1 hi2 hi3
  have eR : ∀ q, W 85 q = V 85 q := fun q => by rw [up2_o e4 (by decide), up2_o e3 (by decide), up2_o e2 (by decide), up2_o e1 (by decide)]
  refine ⟨FLT.ad h.1 (by rw [up2_s e4]; exact hz) (fun i hi _ => ⟨?_, ?_, ?_, fun q _ => eR _⟩) (fun i a _ => h.2 i a) (fun _ => ⟨?_, ?_, ?_, fun h3 q hq => by rw [eR]; exact hr h3 q hq⟩), h.2.ad h24⟩
  · rw [up2_o e4 (by decide), up2_o e3 (by decide), up2_o e2 (by decide), up2_k e1 (by omega)]
  · rw [up2_o e4 (by decide), up2_o e3 (by decide), up2_k e2 (by omega), up2_o e1 (by decide)]
  · rw [up2_o e4 (by decide), up2_k e3 (by omega), up2_o e2 (by decide), up2_o e1 (by decide)]
  · rw [up2_o e4 (by decide), up2_o e3 (by decide), up2_o e2 (by decide), up2_s e1]
    exact ha
  · rw [up2_o e4 (by decide), up2_o e3 (by decide), up2_s e2]
    exact hb
  · rw [up2_o e4 (by decide), up2_s e3]
    exact hg
/-- rows of rings that are not told yet may change -/
theorem FLm.rg (h : FLm V F) (e0 : W 0 81 = V 0 81) (e1 : W 82 = V 82) (e2 : W 83 = V 83) (e3 : W 84 = V 84) (e4 : ∀ q, q < 24 * F.1 → W 85 q = V 85 q) : FLm W F := by
  unfold FLm at h ⊢
  rw [e0, e1, e2, e3]
  exact ⟨⟨h.1.1, fun i a b => ⟨(h.1.2 i a b).1, (h.1.2 i a b).2.1, (h.1.2 i a b).2.2.1, fun w q hq => by
    have y := h.2 i a w
    rw [e4 _ (by omega)]
    exact (h.1.2 i a b).2.2.2 w q hq⟩⟩, h.2⟩
def MKm (x : Int32) (n : Nat) : Prop := (n = 0 → x.toInt = 0) ∧ (n = 1 → x.toInt = 2) ∧ (2 ≤ n → x.toInt = 1)
def RFm (V : Vf) (m : Nat) (M : MSt) (P : Nat → Nat) (p : Nat) : Prop := FLm V M.2 ∧ (∀ d, d < m → MKm (V 87 d) (M.1 d)) ∧ (∀ k, k < p → (V 88 k).toInt = ((P k : Nat) : Int)) ∧ PWF M.1 P p
theorem RFm.rg (h : RFm V m M P p) (f : FLm W F) (e1 : W 87 = V 87) (e2 : W 88 = V 88) : RFm W m (M.1, F) P p := by
  refine ⟨f, ?_, ?_, h.2.2.2⟩
  · rw [e1]
    exact h.2.1
  · rw [e2]
    exact h.2.2.1
theorem RFm.fo (h : RFm V m M P p) (e0 : W 0 81 = V 0 81) (e1 : W 82 = V 82) (e2 : W 83 = V 83) (e3 : W 84 = V 84) (e4 : W 85 = V 85) (e5 : W 87 = V 87) (e6 : W 88 = V 88) : RFm W m M P p := h.rg (h.1.fo e0 e1 e2 e3 e4) e5 e6
theorem RFm.en {j i : Nat} {v w : Int32} (h : RFm V m M P p) (e1 : V1 = up2 V 87 j v) (e2 : V2 = up2 V1 88 i w) (e3 : W = up2 V2 0 89 z) (hi : i = p) (hw : w.toInt = (c : Int)) (hj : j = c) (hv : v.toInt = 1) (h0 : M.1 c = 0) : RFm W m (upn M.1 c (2 + p), M.2) (upn P p c) (p + 1) := by
  subst hi hj
  refine ⟨h.1.fo ?_ ?_ ?_ ?_ ?_, fun d hd => ?_, fun k hk => ?_, h.2.2.2.en h0⟩
  · rw [up2_k e3 (by decide), up2_o e2 (by decide), up2_o e1 (by decide)]
  · rw [up2_fo e3 (by decide), up2_fo e2 (by decide), up2_fo e1 (by decide)]
  · rw [up2_fo e3 (by decide), up2_fo e2 (by decide), up2_fo e1 (by decide)]
  · rw [up2_fo e3 (by decide), up2_fo e2 (by decide), up2_fo e1 (by decide)]
  · rw [up2_fo e3 (by decide), up2_fo e2 (by decide), up2_fo e1 (by decide)]
  · show MKm (W 87 d) (upn M.1 j (2 + i) d)
    by_cases q : d = j
    · subst q
      rw [up2_o e3 (by decide), up2_o e2 (by decide), up2_s e1, upn_s]
      unfold MKm
      omega
    · rw [up2_o e3 (by decide), up2_o e2 (by decide), up2_k e1 q, upn_o q]
      exact h.2.1 d hd
  · by_cases q : k = i
    · subst q
      rw [up2_o e3 (by decide), up2_s e2, upn_s]
      exact hw
    · rw [up2_o e3 (by decide), up2_k e2 q, up2_o e1 (by decide), upn_o q]
      exact h.2.2.1 k (by omega)
theorem RFm.lv {j : Nat} {v : Int32} (h : RFm V m M (upn P p c) (p + 1)) (e1 : V1 = up2 V 0 89 z) (e2 : W = up2 V1 87 j v) (hj : j = c) (hv : v.toInt = 2) : RFm W m (upn M.1 c 1, M.2) P p := by
  subst hj
  refine ⟨h.1.fo ?_ ?_ ?_ ?_ ?_, fun d hd => ?_, fun k hk => ?_, h.2.2.2.lv⟩
  · rw [up2_o e2 (by decide), up2_k e1 (by decide)]
  · rw [up2_fo e2 (by decide), up2_fo e1 (by decide)]
  · rw [up2_fo e2 (by decide), up2_fo e1 (by decide)]
  · rw [up2_fo e2 (by decide), up2_fo e1 (by decide)]
  · rw [up2_fo e2 (by decide), up2_fo e1 (by decide)]
  · show MKm (W 87 d) (upn M.1 j 1 d)
    by_cases q : d = j
    · subst q
      rw [up2_s e2, upn_s]
      unfold MKm
      omega
    · rw [up2_k e2 q, up2_o e1 (by decide), upn_o q]
      exact h.2.1 d hd
  · have y := h.2.2.1 k (by omega)
    rw [upn_o (by omega)] at y
    rw [up2_o e2 (by decide), up2_o e1 (by decide)]
    exact y
theorem svm_fo {q n : Nat} {sv : Nat → Int} (h : svm V q n = sv) (e : W 18 = V 18) : svm W q n = sv := by
  rw [← h]
  unfold svm
  rw [e]
end FLmS


abbrev r_s_addFault6 : Room := { frames := 0, cells := 0, slots := 0, locals := 0 }
abbrev q_s_addFault6 (D : va_G) (ks : KS) (ad : Nat → Nat) (kk : Nat → ClassId) (V : Vf) (L : Lf) (p0 : Int32) (p1 : Int32) (p2 : Int32) (gF : FSt) (nk : Nat) (nc : Nat) (nd : Nat) (nR : Nat → Nat) (A : Nat → Prop) : Array Value → State → Outcome → State → Prop := va_Qv (fun (u : Vf × Lf) => rgd bM u.1 ∧ agr [(0, 81)] [82, 83, 84] V u.1 ∧ u.2 = L ∧ ((u.1 0 81).toInt = (V 0 81).toInt + 1) ∧ (FLm u.1 (adF gF nk nc nd nR))) (fun u t => gq D A (mw ad kk ks.1 u.1 u.2) (mty kk) t) A
set_option maxHeartbeats 4000000 in
set_option maxRecDepth 100000 in
theorem s_addFault6 (l : Launch) (D : va_G) (ks : KS) (sz : Nat) (ad : Nat → Nat) (kk : Nat → ClassId) (V : Vf) (L : Lf) (p0 : Int32) (p1 : Int32) (p2 : Int32) (gF : FSt) (nk : Nat) (nc : Nat) (nd : Nat) (nR : Nat → Nat) (hMV : rgd bM V) (rg_p2 : 0 ≤ p2.toInt ∧ p2.toInt ≤ 24) (y1 : (V 0 81).toInt ≤ 999999) (pa : p0.toInt = ((nk : Nat) : Int)) (pb : p1.toInt = ((nc : Nat) : Int)) (pc : p2.toInt = ((nd : Nat) : Int)) (flq : FLm V gF) (rq : nk = 3 → gF.1 < 100 → ∀ q, q < nd → (V 85 (24 * gF.1 + q)).toInt = ((nR q : Nat) : Int)) (n24 : nk = 3 → nd ≤ 24)  : Met l yX12_addFault (Cond.code yX12_addFault cX12_addFault 4 none :: GW) r_s_addFault6 (va_Pc [.ref (ad 0), .int p0, .int p1, .int p2] (gp D ks (mw ad kk ks.1 V L) (mty kk) sz)) (q_s_addFault6 D ks ad kk V L p0 p1 p2 gF nk nc nd nR (va_A (mw ad kk ks.1 V L) sz)) 0 0 (va_A (mw ad kk ks.1 V L) sz) := by
  refine g_met (q_s_addFault6 D ks ad kk V L p0 p1 p2 gF nk nc nd nR) (by decide) (Nat.le_of_ble_eq_true rfl) ?_
  intro p e s m below meth c A ls H locs hx hb hr hml hown hg hlocks hin hnw hgk hP hK hD hS hA hl
  have hown : s.vm.findClass RX12 = some m.cls := hown
  have hl : lv_has ls 4 [(0, .ref (ad 0)), (1, .int p0), (2, .int p1), (3, .int p2)] := hl
  have hP : va_P D vwCl (mw ad kk ks.1 V L) H := hP
  have hD : va_D A (mw ad kk ks.1 V L) := hD
  have hK : va_K D vwCl (mty kk) s := hK
  have agV : agr [(0, 81)] [82, 83, 84] V V := agr.rf
  have r1 : 0 ≤ ((V 0 81)).toInt ∧ ((V 0 81)).toInt ≤ 1000000 := hMV 0 81
  refine lv_aload_n hx hb dX12_addFault_0 rfl (lv_at hl 0 rfl) ?_
  refine va_get (D := D) (ci := 12) (v := .int (V 0 81)) (C := RX12) (T := TX12) (N := 100) hx hb hg inX12 hown hK hP 0 rfl rfl 81 (by decide) (hg _ w1787) (fun _ h9 => h9) rfl dX12_addFault_1 ?_
  refine lv_bipush (v := 100) hx hb dX12_addFault_4 (by decide) ?_
  refine lv_icmp_ge (tgt := 39) hx hb dX12_addFault_6 (by decide) (fun c2 => ?_) (fun c2 => ?_)
  · skip
    have f3 : 100 ≤ ((V 0 81)).toInt := b_le (by decide) rfl c2
    refine lv_aload_n hx hb dX12_addFault_39 rfl (lv_at hl 0 rfl) ?_
    refine lv_dup hx hb dX12_addFault_40 rfl ?_
    refine va_get (D := D) (ci := 12) (v := .int (V 0 81)) (C := RX12) (T := TX12) (N := 100) hx hb hg inX12 hown hK hP 0 rfl rfl 81 (by decide) (hg _ w1787) (fun _ h9 => h9) rfl dX12_addFault_41 ?_
    refine lv_iconst (v := 1) hx hb dX12_addFault_44 (by decide) ?_
    refine lv_iadd hx hb dX12_addFault_45 ?_
    refine lv_topi (fun z4 ez4 => ?_)
    have hz4 : z4.toInt = ((V 0 81)).toInt + 1 := i_add ez4 rfl (by decide) (by (first | exact om_318db15b188c y1 f3 | omega))
    refine va_put (D := D) (ci := 12) (v := .int z4) (ty := tyX12 81) (C := RX12) (T := TX12) (N := 100) hx hb hg inX12 tyX12 tyX12_ok nmX12 hown hK hP hD hS 0 rfl rfl 81 (by decide) (hg _ w1787) (fun _ h9 => h9) rfl (tyX12_ok 81 (by decide)) rfl rfl (Nat.le_of_ble_eq_true rfl) dX12_addFault_46 (fun H locs hP hD hS => ?_)
    obtain ⟨V5, hV5⟩ : ∃ z, z = up2 V 0 81 z4 := ⟨_, rfl⟩
    have hP : va_P D vwCl (mw ad kk ks.1 V5 L) H := by rw [hV5]; exact hP
    have hD : va_D A (mw ad kk ks.1 V5 L) := by rw [hV5]; exact hD
    have hMV5 : rgd bM V5 := hMV.put hV5 (show 0 ≤ z4.toInt ∧ z4.toInt ≤ 1000000 from by (first | exact om_cd1275f5679f y1 f3 hz4 | omega))
    have agV5 : agr [(0, 81)] [82, 83, 84] V V5 := agV.up hV5 rfl
    have pq6 : (V5 0 81).toInt = z4.toInt := congrArg Int32.toInt (up2_s hV5)
    exact W.vret hx hb hr (fun t ht hW => ⟨⟨(V5, L), rfl, ⟨hMV5, agV5, rfl, (show (V5 0 81).toInt = (V 0 81).toInt + 1 from by (first | exact om_689eeacb6d53 hz4 pq6 | omega)), (FLm.n0 flq hV5 (by (first | exact om_55c67efb91e5 hz4 | omega)) (by (first | exact om_39cf4630b81f f3 | omega)) n24)⟩, by rw [ht]; exact hP, va_K.moved hW.alike hK, hD⟩, hS.F ht⟩) hS.2.2 dX12_addFault_49
  · skip
    have f7 : ((V 0 81)).toInt < 100 := b_nle (by decide) rfl c2
    refine lv_aload_n hx hb dX12_addFault_9 rfl (lv_at hl 0 rfl) ?_
    refine va_get (D := D) (ci := 12) (v := .ref (ad 82)) (C := RX12) (T := TX12) (N := 100) hx hb hg inX12 hown hK hP 0 rfl rfl 82 (by decide) (hg _ w1788) (fun _ h9 => h9) rfl dX12_addFault_10 ?_
    refine lv_aload_n hx hb dX12_addFault_13 rfl (lv_at hl 0 rfl) ?_
    refine va_get (D := D) (ci := 12) (v := .int (V 0 81)) (C := RX12) (T := TX12) (N := 100) hx hb hg inX12 hown hK hP 0 rfl rfl 81 (by decide) (hg _ w1787) (fun _ h9 => h9) rfl dX12_addFault_14 ?_
    refine lv_iload_n hx hb dX12_addFault_17 rfl (lv_at hl 1 rfl) ?_
    refine va_iast (D := D) (i := (V 0 81)) (x := p0) hx hb hK hP hD hS 58 57 rfl rfl (i_in (a := ((V 0 81)).toInt) rfl (by (first | exact om_84fa328245f5 r1.1 f7 | omega))) dX12_addFault_18 (fun H locs hP hD hS => ?_)
    obtain ⟨V8, hV8⟩ : ∃ z, z = up2 V 82 (Int32.toNatClampNeg (V 0 81)) p0 := ⟨_, rfl⟩
    have hP : va_P D vwCl (mw ad kk ks.1 V8 L) H := by rw [hV8]; exact hP
    have hD : va_D A (mw ad kk ks.1 V8 L) := by rw [hV8]; exact hD
    have hMV8 : rgd bM V8 := hMV.put hV8 (i_full _)
    have agV8 : agr [(0, 81)] [82, 83, 84] V V8 := agV.up hV8 rfl
    refine lv_aload_n hx hb dX12_addFault_19 rfl (lv_at hl 0 rfl) ?_
    refine va_get (D := D) (ci := 12) (v := .ref (ad 83)) (C := RX12) (T := TX12) (N := 100) hx hb hg inX12 hown hK hP 0 rfl rfl 83 (by decide) (hg _ w1789) (fun _ h9 => h9) rfl dX12_addFault_20 ?_
    refine lv_aload_n hx hb dX12_addFault_23 rfl (lv_at hl 0 rfl) ?_
    refine va_get (D := D) (ci := 12) (v := .int (V8 0 81)) (C := RX12) (T := TX12) (N := 100) hx hb hg inX12 hown hK hP 0 rfl rfl 81 (by decide) (hg _ w1787) (fun _ h9 => h9) rfl dX12_addFault_24 ?_
    refine g_top (v := (V 0 81)) (up2_o hV8 (by decide)) ?_
    refine lv_iload_n hx hb dX12_addFault_27 rfl (lv_at hl 2 rfl) ?_
    refine va_iast (D := D) (i := (V 0 81)) (x := p1) hx hb hK hP hD hS 59 58 rfl rfl (i_in (a := ((V 0 81)).toInt) rfl (by (first | exact om_84fa328245f5 r1.1 f7 | omega))) dX12_addFault_28 (fun H locs hP hD hS => ?_)
    obtain ⟨V9, hV9⟩ : ∃ z, z = up2 V8 83 (Int32.toNatClampNeg (V 0 81)) p1 := ⟨_, rfl⟩
    have hP : va_P D vwCl (mw ad kk ks.1 V9 L) H := by rw [hV9]; exact hP
    have hD : va_D A (mw ad kk ks.1 V9 L) := by rw [hV9]; exact hD
    have hMV9 : rgd bM V9 := hMV8.put hV9 (i_full _)
    have agV9 : agr [(0, 81)] [82, 83, 84] V V9 := agV8.up hV9 rfl
    refine lv_aload_n hx hb dX12_addFault_29 rfl (lv_at hl 0 rfl) ?_
    refine va_get (D := D) (ci := 12) (v := .ref (ad 84)) (C := RX12) (T := TX12) (N := 100) hx hb hg inX12 hown hK hP 0 rfl rfl 84 (by decide) (hg _ w1790) (fun _ h9 => h9) rfl dX12_addFault_30 ?_
    refine lv_aload_n hx hb dX12_addFault_33 rfl (lv_at hl 0 rfl) ?_
    refine va_get (D := D) (ci := 12) (v := .int (V9 0 81)) (C := RX12) (T := TX12) (N := 100) hx hb hg inX12 hown hK hP 0 rfl rfl 81 (by decide) (hg _ w1787) (fun _ h9 => h9) rfl dX12_addFault_34 ?_
    refine g_top (v := (V 0 81)) ((up2_o hV9 (by decide)).trans (up2_o hV8 (by decide))) ?_
    refine lv_iload_n hx hb dX12_addFault_37 rfl (lv_at hl 3 rfl) ?_
    refine va_iast (D := D) (i := (V 0 81)) (x := p2) hx hb hK hP hD hS 60 59 rfl rfl (i_in (a := ((V 0 81)).toInt) rfl (by (first | exact om_84fa328245f5 r1.1 f7 | omega))) dX12_addFault_38 (fun H locs hP hD hS => ?_)
    obtain ⟨V10, hV10⟩ : ∃ z, z = up2 V9 84 (Int32.toNatClampNeg (V 0 81)) p2 := ⟨_, rfl⟩
    have hP : va_P D vwCl (mw ad kk ks.1 V10 L) H := by rw [hV10]; exact hP
    have hD : va_D A (mw ad kk ks.1 V10 L) := by rw [hV10]; exact hD
    have hMV10 : rgd bM V10 := hMV9.put hV10 (show (-1) ≤ p2.toInt ∧ p2.toInt ≤ 24 from by (first | exact om_63ce7e8c4c16 rg_p2.1 rg_p2.2 | omega))
    have agV10 : agr [(0, 81)] [82, 83, 84] V V10 := agV9.up hV10 rfl
    refine lv_aload_n hx hb dX12_addFault_39 rfl (lv_at hl 0 rfl) ?_
    refine lv_dup hx hb dX12_addFault_40 rfl ?_
    refine va_get (D := D) (ci := 12) (v := .int (V10 0 81)) (C := RX12) (T := TX12) (N := 100) hx hb hg inX12 hown hK hP 0 rfl rfl 81 (by decide) (hg _ w1787) (fun _ h9 => h9) rfl dX12_addFault_41 ?_
    refine g_top (v := (V 0 81)) ((up2_o hV10 (by decide)).trans ((up2_o hV9 (by decide)).trans (up2_o hV8 (by decide)))) ?_
    refine lv_iconst (v := 1) hx hb dX12_addFault_44 (by decide) ?_
    refine lv_iadd hx hb dX12_addFault_45 ?_
    refine lv_topi (fun z11 ez11 => ?_)
    have hz11 : z11.toInt = ((V 0 81)).toInt + 1 := i_add ez11 rfl (by decide) (by (first | exact om_607e1c2a08b1 r1.1 f7 | omega))
    refine va_put (D := D) (ci := 12) (v := .int z11) (ty := tyX12 81) (C := RX12) (T := TX12) (N := 100) hx hb hg inX12 tyX12 tyX12_ok nmX12 hown hK hP hD hS 0 rfl rfl 81 (by decide) (hg _ w1787) (fun _ h9 => h9) rfl (tyX12_ok 81 (by decide)) rfl rfl (Nat.le_of_ble_eq_true rfl) dX12_addFault_46 (fun H locs hP hD hS => ?_)
    obtain ⟨V12, hV12⟩ : ∃ z, z = up2 V10 0 81 z11 := ⟨_, rfl⟩
    have hP : va_P D vwCl (mw ad kk ks.1 V12 L) H := by rw [hV12]; exact hP
    have hD : va_D A (mw ad kk ks.1 V12 L) := by rw [hV12]; exact hD
    have hMV12 : rgd bM V12 := hMV10.put hV12 (show 0 ≤ z11.toInt ∧ z11.toInt ≤ 1000000 from by (first | exact om_8f7de699279a r1.1 f7 hz11 | omega))
    have agV12 : agr [(0, 81)] [82, 83, 84] V V12 := agV10.up hV12 rfl
    have pq13 : (V12 0 81).toInt = z11.toInt := congrArg Int32.toInt (up2_s hV12)
    exact W.vret hx hb hr (fun t ht hW => ⟨⟨(V12, L), rfl, ⟨hMV12, agV12, rfl, (show (V12 0 81).toInt = (V 0 81).toInt + 1 from by (first | exact om_689eeacb6d53 hz11 pq13 | omega)), (FLm.n1 flq hV8 hV9 hV10 hV12 (by have h9 := i_clamp (x := (V 0 81)) rfl (by (first | exact om_eafa9039069c r1.1 | omega)); have h8 := flq.n; omega) (by have h9 := i_clamp (x := (V 0 81)) rfl (by (first | exact om_eafa9039069c r1.1 | omega)); have h8 := flq.n; omega) (by have h9 := i_clamp (x := (V 0 81)) rfl (by (first | exact om_eafa9039069c r1.1 | omega)); have h8 := flq.n; omega) (by (first | exact om_55c67efb91e5 hz11 | omega)) (by omega) (by omega) (by omega) (fun h3 => rq h3 (by have h8 := flq.n; omega)) n24)⟩, by rw [ht]; exact hP, va_K.moved hW.alike hK, hD⟩, hS.F ht⟩) hS.2.2 dX12_addFault_49
abbrev r_s_longness6 : Room := { frames := 0, cells := 0, slots := 0, locals := 0 }
abbrev q_s_longness6 (D : va_G) (p0 : Int32) (A : Nat → Prop) : Array Value → State → Outcome → State → Prop := va_Qi (fun (r : Int32) (_ : Unit) => (1 ≤ r.toInt ∧ r.toInt ≤ 3) ∧ ((p0.toInt = 0 ∧ r.toInt = 3) ∨ (p0.toInt = 1 ∧ r.toInt = 2) ∨ (p0.toInt ≠ 0 ∧ p0.toInt ≠ 1 ∧ r.toInt = 1))) (fun _ t => gq D A [] [] t) A
set_option maxHeartbeats 4000000 in
set_option maxRecDepth 100000 in
theorem s_longness6 (l : Launch) (D : va_G) (ks : KS) (sz : Nat) (p0 : Int32)  : Met l yX12_longness (Cond.code yX12_longness cX12_longness 1 (some .int) :: GW) r_s_longness6 (va_Pc [.int p0] (gp D ks ([]) ([]) sz)) (q_s_longness6 D p0 (va_A ([]) sz)) 0 0 (va_A ([]) sz) := by
  refine g_met (q_s_longness6 D p0) (by decide) (Nat.le_of_ble_eq_true rfl) ?_
  intro p e s m below meth c A ls H locs hx hb hr hml hown hg hlocks hin hnw hgk hP hK hD hS hA hl
  have hown : s.vm.findClass RX12 = some m.cls := hown
  have hl : lv_has ls 1 [(0, .int p0)] := hl
  refine lv_iload_n hx hb dX12_longness_0 rfl (lv_at hl 0 rfl) ?_
  refine lv_if_ne (tgt := 8) hx hb dX12_longness_1 (by decide) (fun c1 => ?_) (fun c1 => ?_)
  · skip
    have f2 : p0.toInt ≠ 0 := b_neq rfl (by decide) c1
    refine lv_iload_n hx hb dX12_longness_8 rfl (lv_at hl 0 rfl) ?_
    refine lv_iconst (v := 1) hx hb dX12_longness_9 (by decide) ?_
    refine lv_icmp_ne (tgt := 17) hx hb dX12_longness_10 (by decide) (fun c3 => ?_) (fun c3 => ?_)
    · skip
      have f4 : p0.toInt ≠ 1 := b_neq rfl (by decide) c3
      refine lv_iconst (v := 1) hx hb dX12_longness_17 (by decide) ?_
      exact W.iret (v := 1) hx hb hr (fun t ht hW => ⟨⟨1, (), rfl, ⟨(by decide), (show (p0.toInt = 0 ∧ 1 = 3) ∨ (p0.toInt = 1 ∧ 1 = 2) ∨ (p0.toInt ≠ 0 ∧ p0.toInt ≠ 1 ∧ 1 = 1) from by omega)⟩, by rw [ht]; exact hP, va_K.moved hW.alike hK, hD⟩, hS.F ht⟩) hS.2.2 dX12_longness_18
    · skip
      have f5 : p0.toInt = 1 := b_eq rfl (by decide) c3
      refine lv_iconst (v := 2) hx hb dX12_longness_13 (by decide) ?_
      refine lv_goto (tgt := 18) hx hb dX12_longness_14 (by decide) ?_
      exact W.iret (v := 2) hx hb hr (fun t ht hW => ⟨⟨2, (), rfl, ⟨(by decide), (show (p0.toInt = 0 ∧ 2 = 3) ∨ (p0.toInt = 1 ∧ 2 = 2) ∨ (p0.toInt ≠ 0 ∧ p0.toInt ≠ 1 ∧ 2 = 1) from by omega)⟩, by rw [ht]; exact hP, va_K.moved hW.alike hK, hD⟩, hS.F ht⟩) hS.2.2 dX12_longness_18
  · skip
    have f6 : p0.toInt = 0 := b_eq rfl (by decide) c1
    refine lv_iconst (v := 3) hx hb dX12_longness_4 (by decide) ?_
    refine lv_goto (tgt := 18) hx hb dX12_longness_5 (by decide) ?_
    exact W.iret (v := 3) hx hb hr (fun t ht hW => ⟨⟨3, (), rfl, ⟨(by decide), (show (p0.toInt = 0 ∧ 3 = 3) ∨ (p0.toInt = 1 ∧ 3 = 2) ∨ (p0.toInt ≠ 0 ∧ p0.toInt ≠ 1 ∧ 3 = 1) from by omega)⟩, by rw [ht]; exact hP, va_K.moved hW.alike hK, hD⟩, hS.F ht⟩) hS.2.2 dX12_longness_18
abbrev r_s_isCandidate6 : Room := { frames := 3, cells := 0, slots := 0, locals := 69 }
abbrev q_s_isCandidate6 (D : va_G) (ks : KS) (ad : Nat → Nat) (kk : Nat → ClassId) (V : Vf) (L : Lf) (p0 : Int32) (p1 : Int32) (bq : Nat) (gs : St) (gc : Nat) (gj : Nat) (gv : Nat → Int) (gk : Nat) (A : Nat → Prop) : Array Value → State → Outcome → State → Prop := va_Qi (fun (r : Int32) (u : Vf × Lf) => rgd bM u.1 ∧ agr [] [80] V u.1 ∧ u.2 = L ∧ (0 ≤ r.toInt ∧ r.toInt ≤ 1) ∧ ((r.toInt = 1 ∧ cdP gs.1 gv (gs.1 (301 + 32 * gc + 4 * gj)) (gs.1 (300 + 32 * gc + 4 * gj)) (gs.1 (302 + 32 * gc + 4 * gj)) (gs.2.1 2).length gk = true) ∨ (r.toInt = 0 ∧ cdP gs.1 gv (gs.1 (301 + 32 * gc + 4 * gj)) (gs.1 (300 + 32 * gc + 4 * gj)) (gs.1 (302 + 32 * gc + 4 * gj)) (gs.2.1 2).length gk = false))) (fun u t => gq D A (mw ad kk ks.1 u.1 u.2) (mty kk) t) A
set_option maxHeartbeats 4000000 in
set_option maxRecDepth 100000 in
theorem s_isCandidate6 (l : Launch) (D : va_G) (ks : KS) (sz : Nat) (ad : Nat → Nat) (kk : Nat → ClassId) (V : Vf) (L : Lf) (p0 : Int32) (p1 : Int32) (bq : Nat) (gs : St) (gc : Nat) (gj : Nat) (gv : Nat → Int) (gk : Nat) (hMV : rgd bM V) (rg_p0 : 0 ≤ p0.toInt ∧ p0.toInt ≤ 383) (rg_p1 : 0 ≤ p1.toInt ∧ p1.toInt ≤ 23) (zq1 : (bq : Int) = (V 0 11).toInt) (pn : p0.toInt = ((8 * (24 * bq + gc) + gj : Nat) : Int)) (gcl : gc < (gs.2.1 2).length) (gjl : gj < gs.1 (66 + 8 * gc)) (t4 : T24 gs) (pk : p1.toInt = ((gk : Nat) : Int)) (gkl : gk < (gs.2.1 2).length) (com : COM V bq gs) (wh : WHs gs) (ln : (V 19 bq).toInt = (((gs.2.1 2).length : Nat) : Int)) (hsv : svm V bq (gs.2.1 1).length = gv)  : Met l yX12_isCandidate (Cond.code yX12_isCandidate cX12_isCandidate 6 (some .boolean) :: GW) r_s_isCandidate6 (va_Pc [.ref (ad 0), .int p0, .int p1] (gp D ks (mw ad kk ks.1 V L) (mty kk) sz)) (q_s_isCandidate6 D ks ad kk V L p0 p1 bq gs gc gj gv gk (va_A (mw ad kk ks.1 V L) sz)) 0 0 (va_A (mw ad kk ks.1 V L) sz) := by
  refine g_met (q_s_isCandidate6 D ks ad kk V L p0 p1 bq gs gc gj gv gk) (by decide) (Nat.le_of_ble_eq_true rfl) ?_
  intro p e s m below meth c A ls H locs hx hb hr hml hown hg hlocks hin hnw hgk hP hK hD hS hA hl
  have hown : s.vm.findClass RX12 = some m.cls := hown
  have hl : lv_has ls 6 [(0, .ref (ad 0)), (1, .int p0), (2, .int p1)] := hl
  have hP : va_P D vwCl (mw ad kk ks.1 V L) H := hP
  have hD : va_D A (mw ad kk ks.1 V L) := hD
  have hK : va_K D vwCl (mty kk) s := hK
  have agV : agr [] [80] V V := agr.rf
  have r1 : 0 ≤ ((V 0 11)).toInt ∧ ((V 0 11)).toInt ≤ 1 := hMV 0 11
  have r2 : 0 ≤ ((V 19 bq)).toInt ∧ ((V 19 bq)).toInt ≤ 24 := hMV 19 bq
  have kb9 : Int32.toNatClampNeg (V 0 11) = bq := by have h9 := i_clamp (x := V 0 11) rfl (by (first | exact om_eafa9039069c r1.1 | omega)); (first | exact om_7d9cc8d6a75e zq1 h9 | omega)
  have q19 : (V 19 (Int32.toNatClampNeg (V 0 11))).toInt = (V 19 bq).toInt := by rw [kb9]
  have t24 := (t4 gc gcl).2.2 gj gjl
  refine lv_aload_n hx hb dX12_isCandidate_0 rfl (lv_at hl 0 rfl) ?_
  refine lv_iload_n hx hb dX12_isCandidate_1 rfl (lv_at hl 1 rfl) ?_
  refine gA_int (gA_runV (As := [.int p0]) (rest := []) (ci := 12) (q0 := 0) hx hb hml hown hg hP hD hK hS hA hnw hgk (s_candidatesOf6 l D ks H.size ad kk V L p0 (bq) (gs) (gc) (gj) hMV (by (first | exact om_ee2ada808de7 rg_p0.2 zq1 pn r1.1 | omega)) (show ((bq) : Int) = (V 0 11).toInt from by (first | exact om_639da7453e33 zq1 | omega)) (show p0.toInt = ((8 * (24 * (bq) + (gc)) + (gj) : Nat) : Int) from by (first | exact om_5c6f91e56a35 pn | omega)) gcl gjl t24 com (show (V 19 (bq)).toInt = ((((gs).2.1 2).length : Nat) : Int) from by (first | exact om_08e0c9701055 ln | omega)) wh) w2172 w2174 w119 w172 w2175 rfl rfl hdV_yX12_candidatesOf ⟨Nat.le_of_ble_eq_true rfl, Nat.le_of_ble_eq_true rfl⟩ rfl hl.1 rfl (Nat.le_of_ble_eq_true rfl) dX12_isCandidate_2 ⟨Nat.le_of_ble_eq_true rfl, Nat.le_of_ble_eq_true rfl⟩) hP hD hK hS hA (fun z3 u4 H locs w5 hP hD hK hS => ?_)
  obtain ⟨V7, L8⟩ := u4
  obtain ⟨hMV7, ajV7, axL8, rgz3, t6⟩ := w5
  have axL8 : L = L8 := Eq.symm axL8
  subst axL8
  have hP : va_P D vwCl (mw ad kk ks.1 V7 L) H := hP
  have hD : va_D A (mw ad kk ks.1 V7 L) := hD
  have hMV7 : rgd bM V7 := hMV7
  have ajV7 : agr [] [80] V V7 := ajV7
  have agV7 : agr [] [80] V V7 := agV.tr ajV7 (by decide) (by decide)
  have rgz3 : 0 ≤ z3.toInt ∧ z3.toInt ≤ 24 := rgz3
  have t6 : CLV V7 80 (CLP (gs).1 (svm V (bq) ((gs).2.1 1).length) ((gs).1 (301 + 32 * (gc) + 4 * (gj))) ((gs).1 (300 + 32 * (gc) + 4 * (gj))) ((gs).1 (302 + 32 * (gc) + 4 * (gj))) ((gs).2.1 2).length ((gs).2.1 2).length) z3.toInt := t6
  refine lv_istore_n (lv' := [(3, .int z3), (0, .ref (ad 0)), (1, .int p0), (2, .int p1)]) hx hb dX12_isCandidate_5 rfl hl (by decide) rfl (fun ls hl => ?_)
  have cv9 : CLV V7 80 (clF gs.1 gv (gs.2.1 2).length gc gj) z3.toInt := by have h9 := t6; rw [hsv] at h9; exact h9
  have ll9 := cv9.1
  refine lv_iconst (v := 0) hx hb dX12_isCandidate_6 (by decide) ?_
  refine lv_istore (lv' := [(4, .int 0), (3, .int z3), (0, .ref (ad 0)), (1, .int p0), (2, .int p1)]) hx hb dX12_isCandidate_7 hl (by decide) rfl (fun ls hl => ?_)
  refine lv_iconst (v := 0) hx hb dX12_isCandidate_9 (by decide) ?_
  refine lv_istore (lv' := [(5, .int 0), (4, .int 0), (3, .int z3), (0, .ref (ad 0)), (1, .int p0), (2, .int p1)]) hx hb dX12_isCandidate_10 hl (by decide) rfl (fun ls hl => ?_)
  have lp12 : ∀ (fulp12 : Nat) (y10 : Int32) (y11 : Int32) (H : Heap) (locs : List Loc) (ls : Array Slot), 0 ≤ y10.toInt ∧ y10.toInt ≤ 24 → 0 ≤ y11.toInt ∧ y11.toInt ≤ 1 → y10.toInt ≤ z3.toInt → ((y11.toInt = 1 ∧ gk ∈ (clF gs.1 gv (gs.2.1 2).length gc gj)) ∨ (y11.toInt = 0 ∧ ∀ i (h : i < (clF gs.1 gv (gs.2.1 2).length gc gj).length), i < y10.toInt.toNat → (clF gs.1 gv (gs.2.1 2).length gc gj)[i] ≠ gk)) → z3.toInt - y10.toInt < (fulp12 : Int) → va_P D vwCl (mw ad kk ks.1 V7 L) H → va_D A (mw ad kk ks.1 V7 L) → va_S A s.heap H locs → lv_has ls 6 [(5, .int y10), (4, .int y11), (3, .int z3), (0, .ref (ad 0)), (1, .int p0), (2, .int p1)] → W p l e r_s_isCandidate6 s m ([.ref (ad 0), .int p0, .int p1] : List Value).toArray below meth c H locs 0 0 (MQ below (q_s_isCandidate6 D ks ad kk V L p0 p1 bq gs gc gj gv gk A) ([.ref (ad 0), .int p0, .int p1] : List Value).toArray s 0 0 A) (F0 m 12 ls []) := by
    intro fulp12
    induction fulp12 with
    | zero =>
      intro y10 y11 H locs ls klp12_0 klp12_1 xlp12_0 xlp12_1 hn  hP hD hS hl
      exfalso; (first | exact om_4634b1278845 xlp12_0 hn | omega)
    | succ fulp12 ihlp12 =>
      intro y10 y11 H locs ls klp12_0 klp12_1 xlp12_0 xlp12_1 hn  hP hD hS hl
      refine lv_iload hx hb dX12_isCandidate_12 (lv_at hl 0 rfl) ?_
      refine lv_iload_n hx hb dX12_isCandidate_14 rfl (lv_at hl 2 rfl) ?_
      refine lv_icmp_ge (tgt := 47) hx hb dX12_isCandidate_15 (by decide) (fun c13 => ?_) (fun c13 => ?_)
      · skip
        have f14 : z3.toInt ≤ y10.toInt := b_le rfl rfl c13
        refine lv_iload hx hb dX12_isCandidate_47 (lv_at hl 1 rfl) ?_
        exact W.zret (v := y11) hx hb hr (nb_ok (by omega)) (fun t ht hW => ⟨⟨y11, (V7, L), rfl, ⟨hMV7, agV7, rfl, (show 0 ≤ y11.toInt ∧ y11.toInt ≤ 1 from by (first | exact om_eb7af9d60398 klp12_1.1 klp12_1.2 | omega)), (by rcases xlp12_1 with h9 | h9; exact Or.inl ⟨h9.1, (CLP_mem gkl).mp h9.2⟩; exact Or.inr ⟨h9.1, by cases e9 : cdP gs.1 gv (gs.1 (301 + 32 * gc + 4 * gj)) (gs.1 (300 + 32 * gc + 4 * gj)) (gs.1 (302 + 32 * gc + 4 * gj)) (gs.2.1 2).length gk; rfl; exact absurd (show gk ∈ (clF gs.1 gv (gs.2.1 2).length gc gj) from (CLP_mem gkl).mpr e9) (mem_at (fun i hi => h9.2 i hi (by omega)))⟩)⟩, by rw [ht]; exact hP, va_K.moved hW.alike hK, hD⟩, hS.F ht⟩) hS.2.2 dX12_isCandidate_49
      · skip
        have f15 : y10.toInt < z3.toInt := b_nle rfl rfl c13
        have ky9 := i_clamp (x := y10) rfl (by (first | exact om_eafa9039069c klp12_0.1 | omega))
        have hK9 : (Int32.toNatClampNeg y10) < (clF gs.1 gv (gs.2.1 2).length gc gj).length := by omega
        have cv9 : (V7 80 (Int32.toNatClampNeg y10)).toInt = (((clF gs.1 gv (gs.2.1 2).length gc gj)[(Int32.toNatClampNeg y10)] : Nat) : Int) := cv9.2 (Int32.toNatClampNeg y10) hK9
        have gl9 : (clF gs.1 gv (gs.2.1 2).length gc gj)[(Int32.toNatClampNeg y10)] < (gs.2.1 2).length := clF_lt (List.getElem_mem hK9)
        refine lv_iload hx hb dX12_isCandidate_18 (lv_at hl 1 rfl) ?_
        refine lv_if_ne (tgt := 34) hx hb dX12_isCandidate_20 (by decide) (fun c16 => ?_) (fun c16 => ?_)
        · skip
          have f17 : y11.toInt ≠ 0 := b_neq rfl (by decide) c16
          refine lv_iconst (v := 1) hx hb dX12_isCandidate_34 (by decide) ?_
          refine lv_goto (tgt := 39) hx hb dX12_isCandidate_35 (by decide) ?_
          refine lv_istore (lv' := [(4, .int 1), (5, .int y10), (3, .int z3), (0, .ref (ad 0)), (1, .int p0), (2, .int p1)]) hx hb dX12_isCandidate_39 hl (by decide) rfl (fun ls hl => ?_)
          obtain ⟨z18, ez18⟩ : ∃ y : Int32, y = y10 + 1 := ⟨_, rfl⟩
          have hz18 : z18.toInt = y10.toInt + 1 := i_add ez18 rfl (by decide) (by (first | exact om_ef5c713ba60b rgz3.2 klp12_0.1 f15 | omega))
          refine lv_iinc (v := z18) (lv' := [(5, .int z18), (4, .int 1), (3, .int z3), (0, .ref (ad 0)), (1, .int p0), (2, .int p1)]) hx hb dX12_isCandidate_41 hl (k := 1) rfl (by rw [ez18]; rfl) (by decide) rfl (fun ls hl => ?_)
          refine lv_goto (tgt := 12) hx hb dX12_isCandidate_44 (by decide) ?_
          have r19 : Int32.toInt 1 = 1 := by decide
          exact ihlp12 z18 1 H locs ls (by (first | exact om_66f93e1729e3 rgz3.2 klp12_0.1 f15 hz18 | omega)) (by decide) (show z18.toInt ≤ z3.toInt from by (first | exact om_7fe9249fc074 f15 hz18 | omega)) (Or.inl ⟨rfl, (xlp12_1.resolve_right (fun h7 => by have h6 := h7.1; omega)).2⟩) (by (first | exact om_9e7d2b874257 hn hz18 | omega)) hP hD hS (lv_sub hl [0, 1, 2, 3, 4, 5] rfl)
        · skip
          have f20 : y11.toInt = 0 := b_eq rfl (by decide) c16
          refine lv_aload_n hx hb dX12_isCandidate_23 rfl (lv_at hl 3 rfl) ?_
          refine va_get (D := D) (ci := 12) (v := .ref (ad 80)) (C := RX12) (T := TX12) (N := 100) hx hb hg inX12 hown hK hP 0 rfl rfl 80 (by decide) (hg _ w1786) (fun _ h9 => h9) rfl dX12_isCandidate_24 ?_
          refine lv_iload hx hb dX12_isCandidate_27 (lv_at hl 0 rfl) ?_
          refine va_iald (D := D) (i := y10) hx hb hK hP 57 56 rfl rfl (i_in (a := y10.toInt) rfl (by (first | exact om_b50422aacf88 rgz3.2 klp12_0.1 f15 | omega))) dX12_isCandidate_29 ?_
          have r21 : 0 ≤ ((V7 80 (Int32.toNatClampNeg y10))).toInt ∧ ((V7 80 (Int32.toNatClampNeg y10))).toInt ≤ 23 := hMV7 80 (Int32.toNatClampNeg y10)
          refine lv_iload_n hx hb dX12_isCandidate_30 rfl (lv_at hl 5 rfl) ?_
          refine lv_icmp_ne (tgt := 38) hx hb dX12_isCandidate_31 (by decide) (fun c22 => ?_) (fun c22 => ?_)
          · skip
            have f23 : ((V7 80 (Int32.toNatClampNeg y10))).toInt ≠ p1.toInt := b_neq rfl rfl c22
            refine lv_iconst (v := 0) hx hb dX12_isCandidate_38 (by decide) ?_
            refine lv_istore (lv' := [(4, .int 0), (5, .int y10), (3, .int z3), (0, .ref (ad 0)), (1, .int p0), (2, .int p1)]) hx hb dX12_isCandidate_39 hl (by decide) rfl (fun ls hl => ?_)
            obtain ⟨z24, ez24⟩ : ∃ y : Int32, y = y10 + 1 := ⟨_, rfl⟩
            have hz24 : z24.toInt = y10.toInt + 1 := i_add ez24 rfl (by decide) (by (first | exact om_ef5c713ba60b rgz3.2 klp12_0.1 f15 | omega))
            refine lv_iinc (v := z24) (lv' := [(5, .int z24), (4, .int 0), (3, .int z3), (0, .ref (ad 0)), (1, .int p0), (2, .int p1)]) hx hb dX12_isCandidate_41 hl (k := 1) rfl (by rw [ez24]; rfl) (by decide) rfl (fun ls hl => ?_)
            refine lv_goto (tgt := 12) hx hb dX12_isCandidate_44 (by decide) ?_
            have r25 : Int32.toInt 0 = 0 := by decide
            exact ihlp12 z24 0 H locs ls (by (first | exact om_66f93e1729e3 rgz3.2 klp12_0.1 f15 hz24 | omega)) (by decide) (show z24.toInt ≤ z3.toInt from by (first | exact om_7fe9249fc074 f15 hz24 | omega)) (Or.inr ⟨rfl, fun i hi h9 => by rcases Decidable.em (i = (Int32.toNatClampNeg y10)) with h8 | h8; (subst h8; omega); exact (xlp12_1.resolve_left (fun h7 => by have h6 := h7.1; omega)).2 i hi (by omega)⟩) (by (first | exact om_9e7d2b874257 hn hz24 | omega)) hP hD hS (lv_sub hl [0, 1, 2, 3, 4, 5] rfl)
          · skip
            have f26 : ((V7 80 (Int32.toNatClampNeg y10))).toInt = p1.toInt := b_eq rfl rfl c22
            refine lv_iconst (v := 1) hx hb dX12_isCandidate_34 (by decide) ?_
            refine lv_goto (tgt := 39) hx hb dX12_isCandidate_35 (by decide) ?_
            refine lv_istore (lv' := [(4, .int 1), (5, .int y10), (3, .int z3), (0, .ref (ad 0)), (1, .int p0), (2, .int p1)]) hx hb dX12_isCandidate_39 hl (by decide) rfl (fun ls hl => ?_)
            obtain ⟨z27, ez27⟩ : ∃ y : Int32, y = y10 + 1 := ⟨_, rfl⟩
            have hz27 : z27.toInt = y10.toInt + 1 := i_add ez27 rfl (by decide) (by (first | exact om_ef5c713ba60b rgz3.2 klp12_0.1 f15 | omega))
            refine lv_iinc (v := z27) (lv' := [(5, .int z27), (4, .int 1), (3, .int z3), (0, .ref (ad 0)), (1, .int p0), (2, .int p1)]) hx hb dX12_isCandidate_41 hl (k := 1) rfl (by rw [ez27]; rfl) (by decide) rfl (fun ls hl => ?_)
            refine lv_goto (tgt := 12) hx hb dX12_isCandidate_44 (by decide) ?_
            have r28 : Int32.toInt 1 = 1 := by decide
            exact ihlp12 z27 1 H locs ls (by (first | exact om_66f93e1729e3 rgz3.2 klp12_0.1 f15 hz27 | omega)) (by decide) (show z27.toInt ≤ z3.toInt from by (first | exact om_7fe9249fc074 f15 hz27 | omega)) (Or.inl ⟨rfl, List.mem_iff_getElem.mpr ⟨(Int32.toNatClampNeg y10), hK9, by omega⟩⟩) (by (first | exact om_9e7d2b874257 hn hz27 | omega)) hP hD hS (lv_sub hl [0, 1, 2, 3, 4, 5] rfl)
  have r29 : Int32.toInt 0 = 0 := by decide
  exact lp12 ((z3.toInt - (Int32.toInt 0) + 1 : Int).toNat) 0 0 H locs ls (by decide) (by decide) (show (Int32.toInt 0) ≤ z3.toInt from by (first | exact om_6f9bb8cf3bec rgz3.1 r29 | omega)) (Or.inr ⟨rfl, fun i _ h9 => absurd h9 (by rw [show (Int32.toInt 0).toNat = 0 from by decide]; exact Nat.not_lt_zero _)⟩) (by (first | exact om_7441a7786481 | omega)) hP hD hS (lv_sub hl [0, 1, 2, 3, 4, 5] rfl)
abbrev r_s_addCycle6 : Room := { frames := 1, cells := 0, slots := 0, locals := 23 }
abbrev q_s_addCycle6 (D : va_G) (ks : KS) (ad : Nat → Nat) (kk : Nat → ClassId) (V : Vf) (L : Lf) (p0 : Int32) (gF : FSt) (gP : Nat → Nat) (dq : Nat) (gi : Nat) (gd : Nat) (A : Nat → Prop) : Array Value → State → Outcome → State → Prop := va_Qv (fun (u : Vf × Lf) => rgd bM u.1 ∧ agr [(0, 81)] [82, 83, 84, 85] V u.1 ∧ u.2 = L ∧ ((u.1 0 81).toInt = (V 0 81).toInt + 1) ∧ (FLm u.1 (adF gF 3 gd (dq - gi) (fun k9 => gP (gi + k9))))) (fun u t => gq D A (mw ad kk ks.1 u.1 u.2) (mty kk) t) A
set_option maxHeartbeats 4000000 in
set_option maxRecDepth 100000 in
theorem s_addCycle6 (l : Launch) (D : va_G) (ks : KS) (sz : Nat) (ad : Nat → Nat) (kk : Nat → ClassId) (V : Vf) (L : Lf) (p0 : Int32) (gF : FSt) (gP : Nat → Nat) (dq : Nat) (gi : Nat) (gd : Nat) (hMV : rgd bM V) (rg_p0 : 0 ≤ p0.toInt ∧ p0.toInt ≤ 23) (y2 : (V 0 81).toInt ≤ 999999) (pd : p0.toInt = ((gd : Nat) : Int)) (pw : (V 0 89).toInt = ((dq : Nat) : Int)) (dq4 : dq ≤ 24) (gil : gi < dq) (flq : FLm V gF) (ptq : ∀ k, k < dq → (V 88 k).toInt = ((gP k : Nat) : Int)) (pgd : gP gi = gd) (pnd : ∀ k, k < gi → gP k ≠ gd)  : Met l yX12_addCycle (Cond.code yX12_addCycle cX12_addCycle 4 none :: GW) r_s_addCycle6 (va_Pc [.ref (ad 0), .int p0] (gp D ks (mw ad kk ks.1 V L) (mty kk) sz)) (q_s_addCycle6 D ks ad kk V L p0 gF gP dq gi gd (va_A (mw ad kk ks.1 V L) sz)) 0 0 (va_A (mw ad kk ks.1 V L) sz) := by
  refine g_met (q_s_addCycle6 D ks ad kk V L p0 gF gP dq gi gd) (by decide) (Nat.le_of_ble_eq_true rfl) ?_
  intro p e s m below meth c A ls H locs hx hb hr hml hown hg hlocks hin hnw hgk hP hK hD hS hA hl
  have hown : s.vm.findClass RX12 = some m.cls := hown
  have hl : lv_has ls 4 [(0, .ref (ad 0)), (1, .int p0)] := hl
  have hP : va_P D vwCl (mw ad kk ks.1 V L) H := hP
  have hD : va_D A (mw ad kk ks.1 V L) := hD
  have hK : va_K D vwCl (mty kk) s := hK
  have agV : agr [(0, 81)] [82, 83, 84, 85] V V := agr.rf
  have r1 : 0 ≤ ((V 0 81)).toInt ∧ ((V 0 81)).toInt ≤ 1000000 := hMV 0 81
  have r2 : 0 ≤ ((V 0 89)).toInt ∧ ((V 0 89)).toInt ≤ 24 := hMV 0 89
  have fn0 := flq.n
  refine lv_iconst (v := 0) hx hb dX12_addCycle_0 (by decide) ?_
  refine lv_istore_n (lv' := [(2, .int 0), (0, .ref (ad 0)), (1, .int p0)]) hx hb dX12_addCycle_1 rfl hl (by decide) rfl (fun ls hl => ?_)
  have lp4 : ∀ (fulp4 : Nat) (y3 : Int32) (H : Heap) (locs : List Loc) (ls : Array Slot), 0 ≤ y3.toInt ∧ y3.toInt ≤ 23 → y3.toInt ≤ ((gi : Nat) : Int) → 24 - y3.toInt < (fulp4 : Int) → va_P D vwCl (mw ad kk ks.1 V L) H → va_D A (mw ad kk ks.1 V L) → va_S A s.heap H locs → lv_has ls 4 [(2, .int y3), (0, .ref (ad 0)), (1, .int p0)] → W p l e r_s_addCycle6 s m ([.ref (ad 0), .int p0] : List Value).toArray below meth c H locs 0 0 (MQ below (q_s_addCycle6 D ks ad kk V L p0 gF gP dq gi gd A) ([.ref (ad 0), .int p0] : List Value).toArray s 0 0 A) (F0 m 2 ls []) := by
    intro fulp4
    induction fulp4 with
    | zero =>
      intro y3 H locs ls klp4_0 xlp4_0 hn  hP hD hS hl
      exfalso; (first | exact om_e6b264569fa2 klp4_0.2 hn | omega)
    | succ fulp4 ihlp4 =>
      intro y3 H locs ls klp4_0 xlp4_0 hn  hP hD hS hl
      refine lv_aload_n hx hb dX12_addCycle_2 rfl (lv_at hl 1 rfl) ?_
      have ky9 := i_clamp (x := y3) rfl (by (first | exact om_eafa9039069c klp4_0.1 | omega))
      have hp9 := ptq (Int32.toNatClampNeg y3) (by omega)
      have hq9 : (Int32.toNatClampNeg y3) < gi → gP (Int32.toNatClampNeg y3) ≠ gd := fun h9 => pnd _ h9
      have hr9 : (Int32.toNatClampNeg y3) = gi → gP (Int32.toNatClampNeg y3) = gd := fun h9 => by rw [h9]; exact pgd
      refine va_get (D := D) (ci := 12) (v := .ref (ad 88)) (C := RX12) (T := TX12) (N := 100) hx hb hg inX12 hown hK hP 0 rfl rfl 88 (by decide) (hg _ w1794) (fun _ h9 => h9) rfl dX12_addCycle_3 ?_
      refine lv_iload_n hx hb dX12_addCycle_6 rfl (lv_at hl 0 rfl) ?_
      refine va_iald (D := D) (i := y3) hx hb hK hP 64 63 rfl rfl (i_in (a := y3.toInt) rfl (by (first | exact om_a6497075f1b8 dq4 gil klp4_0.1 xlp4_0 | omega))) dX12_addCycle_7 ?_
      have r5 : 0 ≤ ((V 88 (Int32.toNatClampNeg y3))).toInt ∧ ((V 88 (Int32.toNatClampNeg y3))).toInt ≤ 23 := hMV 88 (Int32.toNatClampNeg y3)
      refine lv_iload_n hx hb dX12_addCycle_8 rfl (lv_at hl 2 rfl) ?_
      refine lv_icmp_eq (tgt := 18) hx hb dX12_addCycle_9 (by decide) (fun c6 => ?_) (fun c6 => ?_)
      · skip
        have f7 : ((V 88 (Int32.toNatClampNeg y3))).toInt = p0.toInt := b_eq rfl rfl c6
        have li9 : y3.toInt = ((gi : Nat) : Int) := by rcases Decidable.em (Int32.toNatClampNeg y3 < gi) with h9 | h9; (have h8 := hq9 h9; omega); omega
        refine lv_iload_n hx hb dX12_addCycle_18 rfl (lv_at hl 0 rfl) ?_
        refine lv_istore_n (lv' := [(3, .int y3), (2, .int y3), (0, .ref (ad 0)), (1, .int p0)]) hx hb dX12_addCycle_19 rfl hl (by decide) rfl (fun ls hl => ?_)
        have lp10 : ∀ (fulp10 : Nat) (y8 : Int32) (V9 : Vf) (H : Heap) (locs : List Loc) (ls : Array Slot), 0 ≤ y8.toInt ∧ y8.toInt ≤ 24 → y3.toInt ≤ y8.toInt → y8.toInt ≤ (V 0 89).toInt → (∀ q : Nat, (q : Int) < y8.toInt - y3.toInt → (V9 85 (24 * gF.1 + q)).toInt = ((gP (gi + q) : Nat) : Int)) → (∀ q : Nat, q < 24 * gF.1 → V9 85 q = V 85 q) → 24 - y8.toInt < (fulp10 : Int) → agr [] [85] V V9 → rgd bM V9 → va_P D vwCl (mw ad kk ks.1 V9 L) H → va_D A (mw ad kk ks.1 V9 L) → va_S A s.heap H locs → lv_has ls 4 [(3, .int y8), (2, .int y3), (0, .ref (ad 0)), (1, .int p0)] → W p l e r_s_addCycle6 s m ([.ref (ad 0), .int p0] : List Value).toArray below meth c H locs 0 0 (MQ below (q_s_addCycle6 D ks ad kk V L p0 gF gP dq gi gd A) ([.ref (ad 0), .int p0] : List Value).toArray s 0 0 A) (F0 m 20 ls []) := by
          intro fulp10
          induction fulp10 with
          | zero =>
            intro y8 V9 H locs ls klp10_0 xlp10_0 xlp10_1 xlp10_2 xlp10_3 hn ajV9 hMV9 hP hD hS hl
            exfalso; (first | exact om_9386ef0df612 klp10_0.2 hn | omega)
          | succ fulp10 ihlp10 =>
            intro y8 V9 H locs ls klp10_0 xlp10_0 xlp10_1 xlp10_2 xlp10_3 hn ajV9 hMV9 hP hD hS hl
            have agV9 : agr [(0, 81)] [82, 83, 84, 85] V V9 := agV.tr ajV9 (by decide) (by decide)
            refine lv_iload_n hx hb dX12_addCycle_20 rfl (lv_at hl 0 rfl) ?_
            refine lv_aload_n hx hb dX12_addCycle_21 rfl (lv_at hl 2 rfl) ?_
            refine va_get (D := D) (ci := 12) (v := .int (V9 0 89)) (C := RX12) (T := TX12) (N := 100) hx hb hg inX12 hown hK hP 0 rfl rfl 89 (by decide) (hg _ w1795) (fun _ h9 => h9) rfl dX12_addCycle_22 ?_
            refine g_top (v := (V 0 89)) (ajV9 0 89 rfl) ?_
            refine lv_icmp_ge (tgt := 65) hx hb dX12_addCycle_25 (by decide) (fun c11 => ?_) (fun c11 => ?_)
            · skip
              have f12 : ((V 0 89)).toInt ≤ y8.toInt := b_le rfl rfl c11
              refine lv_aload_n hx hb dX12_addCycle_65 rfl (lv_at hl 2 rfl) ?_
              refine lv_iconst (v := 3) hx hb dX12_addCycle_66 (by decide) ?_
              refine lv_iload_n hx hb dX12_addCycle_67 rfl (lv_at hl 3 rfl) ?_
              refine lv_aload_n hx hb dX12_addCycle_68 rfl (lv_at hl 2 rfl) ?_
              refine va_get (D := D) (ci := 12) (v := .int (V9 0 89)) (C := RX12) (T := TX12) (N := 100) hx hb hg inX12 hown hK hP 0 rfl rfl 89 (by decide) (hg _ w1795) (fun _ h9 => h9) rfl dX12_addCycle_69 ?_
              refine g_top (v := (V 0 89)) (ajV9 0 89 rfl) ?_
              refine lv_iload_n hx hb dX12_addCycle_72 rfl (lv_at hl 1 rfl) ?_
              refine lv_isub hx hb dX12_addCycle_73 ?_
              refine lv_topi (fun z13 ez13 => ?_)
              have hz13 : z13.toInt = ((V 0 89)).toInt - y3.toInt := i_sub ez13 rfl rfl (by (first | exact om_c7b360c04862 pw dq4 gil klp4_0.1 xlp4_0 | omega))
              have r14 : Int32.toInt 3 = 3 := by decide
              have pq15 : (V9 0 81).toInt = ((V 0 81)).toInt := congrArg Int32.toInt (ajV9 0 81 rfl)
              refine gA_void (gA_runV (As := [.int 3, .int p0, .int z13]) (rest := []) (ci := 12) (q0 := 0) hx hb hml hown hg hP hD hK hS hA hnw hgk (s_addFault6 l D ks H.size ad kk V9 L 3 p0 z13 (gF) (3) (gd) (dq - gi) (fun k9 => gP (gi + k9)) hMV9 (by (first | exact om_0c9e0661e853 pw dq4 gil klp4_0.1 xlp4_0 hz13 | omega)) (show (V9 0 81).toInt ≤ 999999 from by (first | exact om_92a90bb16346 y2 pq15 | omega)) (show (Int32.toInt 3) = (((3) : Nat) : Int) from by (first | exact om_8d33b021ea99 r14 | omega)) (show p0.toInt = (((gd) : Nat) : Int) from by (first | exact om_08e0c9701055 pd | omega)) (show z13.toInt = (((dq - gi) : Nat) : Int) from by omega) (FLm.rg flq (congrFun (by rw [(funext (fun q => ajV9 0 q rfl) : V9 0 = V 0)] : V9 0 = V 0) 81) (by rw [(funext (fun q => ajV9 82 q rfl) : V9 82 = V 82)] : V9 82 = V 82) (by rw [(funext (fun q => ajV9 83 q rfl) : V9 83 = V 83)] : V9 83 = V 83) (by rw [(funext (fun q => ajV9 84 q rfl) : V9 84 = V 84)] : V9 84 = V 84) xlp10_3) (fun _ h100 q9 hq => xlp10_2 q9 (by omega)) (fun _ => by omega)) w2183 w2185 w121 w172 w2186 rfl rfl hdV_yX12_addFault ⟨Nat.le_of_ble_eq_true rfl, Nat.le_of_ble_eq_true rfl⟩ rfl hl.1 rfl (Nat.le_of_ble_eq_true rfl) dX12_addCycle_74 ⟨Nat.le_of_ble_eq_true rfl, Nat.le_of_ble_eq_true rfl⟩) hP hD hK hS hA (fun u17 H locs w18 hP hD hK hS => ?_)
              obtain ⟨V21, L22⟩ := u17
              obtain ⟨hMV21, ajV21, axL22, t19, t20⟩ := w18
              have axL22 : L = L22 := Eq.symm axL22
              subst axL22
              have hP : va_P D vwCl (mw ad kk ks.1 V21 L) H := hP
              have hD : va_D A (mw ad kk ks.1 V21 L) := hD
              have hMV21 : rgd bM V21 := hMV21
              have ajV21 : agr [(0, 81)] [82, 83, 84] V9 V21 := ajV21
              have agV21 : agr [(0, 81)] [82, 83, 84, 85] V V21 := agV9.tr ajV21 (by decide) (by decide)
              have t19 : (V21 0 81).toInt = (V9 0 81).toInt + 1 := t19
              have t20 : FLm V21 (adF (gF) (3) (gd) (dq - gi) (fun k9 => gP (gi + k9))) := t20
              have r23 : 0 ≤ ((V21 0 81)).toInt ∧ ((V21 0 81)).toInt ≤ 1000000 := hMV21 0 81
              exact W.vret hx hb hr (fun t ht hW => ⟨⟨(V21, L), rfl, ⟨hMV21, agV21, rfl, (show (V21 0 81).toInt = (V 0 81).toInt + 1 from by (first | exact om_03bf848abeb4 pq15 t19 | omega)), t20⟩, by rw [ht]; exact hP, va_K.moved hW.alike hK, hD⟩, hS.F ht⟩) hS.2.2 dX12_addCycle_77
            · skip
              have f24 : y8.toInt < ((V 0 89)).toInt := b_nle rfl rfl c11
              refine lv_aload_n hx hb dX12_addCycle_28 rfl (lv_at hl 2 rfl) ?_
              refine va_get (D := D) (ci := 12) (v := .int (V9 0 81)) (C := RX12) (T := TX12) (N := 100) hx hb hg inX12 hown hK hP 0 rfl rfl 81 (by decide) (hg _ w1787) (fun _ h9 => h9) rfl dX12_addCycle_29 ?_
              refine g_top (v := (V 0 81)) (ajV9 0 81 rfl) ?_
              refine lv_bipush (v := 100) hx hb dX12_addCycle_32 (by decide) ?_
              refine lv_icmp_ge (tgt := 65) hx hb dX12_addCycle_34 (by decide) (fun c25 => ?_) (fun c25 => ?_)
              · skip
                have f26 : 100 ≤ ((V 0 81)).toInt := b_le (by decide) rfl c25
                refine lv_aload_n hx hb dX12_addCycle_65 rfl (lv_at hl 2 rfl) ?_
                refine lv_iconst (v := 3) hx hb dX12_addCycle_66 (by decide) ?_
                refine lv_iload_n hx hb dX12_addCycle_67 rfl (lv_at hl 3 rfl) ?_
                refine lv_aload_n hx hb dX12_addCycle_68 rfl (lv_at hl 2 rfl) ?_
                refine va_get (D := D) (ci := 12) (v := .int (V9 0 89)) (C := RX12) (T := TX12) (N := 100) hx hb hg inX12 hown hK hP 0 rfl rfl 89 (by decide) (hg _ w1795) (fun _ h9 => h9) rfl dX12_addCycle_69 ?_
                refine g_top (v := (V 0 89)) (ajV9 0 89 rfl) ?_
                refine lv_iload_n hx hb dX12_addCycle_72 rfl (lv_at hl 1 rfl) ?_
                refine lv_isub hx hb dX12_addCycle_73 ?_
                refine lv_topi (fun z27 ez27 => ?_)
                have hz27 : z27.toInt = ((V 0 89)).toInt - y3.toInt := i_sub ez27 rfl rfl (by (first | exact om_c6f56d59620b pw dq4 klp4_0.1 xlp10_0 f24 | omega))
                have r28 : Int32.toInt 3 = 3 := by decide
                have pq29 : (V9 0 81).toInt = ((V 0 81)).toInt := congrArg Int32.toInt (ajV9 0 81 rfl)
                refine gA_void (gA_runV (As := [.int 3, .int p0, .int z27]) (rest := []) (ci := 12) (q0 := 0) hx hb hml hown hg hP hD hK hS hA hnw hgk (s_addFault6 l D ks H.size ad kk V9 L 3 p0 z27 (gF) (3) (gd) (dq - gi) (fun k9 => gP (gi + k9)) hMV9 (by (first | exact om_0f5e47603107 pw dq4 klp4_0.1 xlp10_0 f24 hz27 | omega)) (show (V9 0 81).toInt ≤ 999999 from by (first | exact om_92a90bb16346 y2 pq29 | omega)) (show (Int32.toInt 3) = (((3) : Nat) : Int) from by (first | exact om_8d33b021ea99 r28 | omega)) (show p0.toInt = (((gd) : Nat) : Int) from by (first | exact om_08e0c9701055 pd | omega)) (show z27.toInt = (((dq - gi) : Nat) : Int) from by omega) (FLm.rg flq (congrFun (by rw [(funext (fun q => ajV9 0 q rfl) : V9 0 = V 0)] : V9 0 = V 0) 81) (by rw [(funext (fun q => ajV9 82 q rfl) : V9 82 = V 82)] : V9 82 = V 82) (by rw [(funext (fun q => ajV9 83 q rfl) : V9 83 = V 83)] : V9 83 = V 83) (by rw [(funext (fun q => ajV9 84 q rfl) : V9 84 = V 84)] : V9 84 = V 84) xlp10_3) (fun _ h100 q9 hq => xlp10_2 q9 (by omega)) (fun _ => by omega)) w2183 w2185 w121 w172 w2186 rfl rfl hdV_yX12_addFault ⟨Nat.le_of_ble_eq_true rfl, Nat.le_of_ble_eq_true rfl⟩ rfl hl.1 rfl (Nat.le_of_ble_eq_true rfl) dX12_addCycle_74 ⟨Nat.le_of_ble_eq_true rfl, Nat.le_of_ble_eq_true rfl⟩) hP hD hK hS hA (fun u31 H locs w32 hP hD hK hS => ?_)
                obtain ⟨V35, L36⟩ := u31
                obtain ⟨hMV35, ajV35, axL36, t33, t34⟩ := w32
                have axL36 : L = L36 := Eq.symm axL36
                subst axL36
                have hP : va_P D vwCl (mw ad kk ks.1 V35 L) H := hP
                have hD : va_D A (mw ad kk ks.1 V35 L) := hD
                have hMV35 : rgd bM V35 := hMV35
                have ajV35 : agr [(0, 81)] [82, 83, 84] V9 V35 := ajV35
                have agV35 : agr [(0, 81)] [82, 83, 84, 85] V V35 := agV9.tr ajV35 (by decide) (by decide)
                have t33 : (V35 0 81).toInt = (V9 0 81).toInt + 1 := t33
                have t34 : FLm V35 (adF (gF) (3) (gd) (dq - gi) (fun k9 => gP (gi + k9))) := t34
                have r37 : 0 ≤ ((V35 0 81)).toInt ∧ ((V35 0 81)).toInt ≤ 1000000 := hMV35 0 81
                exact W.vret hx hb hr (fun t ht hW => ⟨⟨(V35, L), rfl, ⟨hMV35, agV35, rfl, (show (V35 0 81).toInt = (V 0 81).toInt + 1 from by (first | exact om_03bf848abeb4 pq29 t33 | omega)), t34⟩, by rw [ht]; exact hP, va_K.moved hW.alike hK, hD⟩, hS.F ht⟩) hS.2.2 dX12_addCycle_77
              · skip
                have f38 : ((V 0 81)).toInt < 100 := b_nle (by decide) rfl c25
                refine lv_aload_n hx hb dX12_addCycle_37 rfl (lv_at hl 2 rfl) ?_
                refine va_get (D := D) (ci := 12) (v := .ref (ad 85)) (C := RX12) (T := TX12) (N := 100) hx hb hg inX12 hown hK hP 0 rfl rfl 85 (by decide) (hg _ w1791) (fun _ h9 => h9) rfl dX12_addCycle_38 ?_
                refine lv_bipush (v := 24) hx hb dX12_addCycle_41 (by decide) ?_
                refine lv_aload_n hx hb dX12_addCycle_43 rfl (lv_at hl 2 rfl) ?_
                refine va_get (D := D) (ci := 12) (v := .int (V9 0 81)) (C := RX12) (T := TX12) (N := 100) hx hb hg inX12 hown hK hP 0 rfl rfl 81 (by decide) (hg _ w1787) (fun _ h9 => h9) rfl dX12_addCycle_44 ?_
                refine g_top (v := (V 0 81)) (ajV9 0 81 rfl) ?_
                refine lv_imul hx hb dX12_addCycle_47 ?_
                refine lv_topi (fun z39 ez39 => ?_)
                have hz39 : z39.toInt = 24 * ((V 0 81)).toInt := i_mul ez39 (by decide) rfl (by (first | exact om_0975071f571e r1.1 f38 | omega))
                refine lv_iload_n hx hb dX12_addCycle_48 rfl (lv_at hl 0 rfl) ?_
                refine lv_iadd hx hb dX12_addCycle_49 ?_
                refine lv_topi (fun z40 ez40 => ?_)
                have hz40 : z40.toInt = z39.toInt + y8.toInt := i_add ez40 rfl rfl (by (first | exact om_4bd522432616 pw dq4 r1.1 klp10_0.1 f24 f38 hz39 | omega))
                refine lv_iload_n hx hb dX12_addCycle_50 rfl (lv_at hl 1 rfl) ?_
                refine lv_isub hx hb dX12_addCycle_51 ?_
                refine lv_topi (fun z41 ez41 => ?_)
                have hz41 : z41.toInt = z40.toInt - y3.toInt := i_sub ez41 rfl rfl (by (first | exact om_dcf5c8c3b9a7 pw dq4 r1.1 klp4_0.1 xlp10_0 f24 f38 hz39 hz40 | omega))
                refine lv_aload_n hx hb dX12_addCycle_52 rfl (lv_at hl 2 rfl) ?_
                refine va_get (D := D) (ci := 12) (v := .ref (ad 88)) (C := RX12) (T := TX12) (N := 100) hx hb hg inX12 hown hK hP 0 rfl rfl 88 (by decide) (hg _ w1794) (fun _ h9 => h9) rfl dX12_addCycle_53 ?_
                refine lv_iload_n hx hb dX12_addCycle_56 rfl (lv_at hl 0 rfl) ?_
                refine va_iald (D := D) (i := y8) hx hb hK hP 64 63 rfl rfl (i_in (a := y8.toInt) rfl (by (first | exact om_67de8ba3d9bb pw dq4 klp10_0.1 f24 | omega))) dX12_addCycle_57 ?_
                refine g_top (v := (V 88 (Int32.toNatClampNeg y8))) (ajV9 88 (Int32.toNatClampNeg y8) rfl) ?_
                have r42 : 0 ≤ ((V 88 (Int32.toNatClampNeg y8))).toInt ∧ ((V 88 (Int32.toNatClampNeg y8))).toInt ≤ 23 := hMV 88 (Int32.toNatClampNeg y8)
                refine va_iast (D := D) (i := z41) (x := (V 88 (Int32.toNatClampNeg y8))) hx hb hK hP hD hS 61 60 rfl rfl (i_in (a := z41.toInt) rfl (by (first | exact om_89e0f12912ea pw dq4 r1.1 klp4_0.1 xlp10_0 f24 f38 hz39 hz40 hz41 | omega))) dX12_addCycle_58 (fun H locs hP hD hS => ?_)
                obtain ⟨V43, hV43⟩ : ∃ z, z = up2 V9 85 (Int32.toNatClampNeg z41) (V 88 (Int32.toNatClampNeg y8)) := ⟨_, rfl⟩
                have hP : va_P D vwCl (mw ad kk ks.1 V43 L) H := by rw [hV43]; exact hP
                have hD : va_D A (mw ad kk ks.1 V43 L) := by rw [hV43]; exact hD
                have hMV43 : rgd bM V43 := hMV9.put hV43 (i_full _)
                have agV43 : agr [(0, 81)] [82, 83, 84, 85] V V43 := agV9.up hV43 rfl
                obtain ⟨z44, ez44⟩ : ∃ y : Int32, y = y8 + 1 := ⟨_, rfl⟩
                have hz44 : z44.toInt = y8.toInt + 1 := i_add ez44 rfl (by decide) (by (first | exact om_1496522b7eb5 pw dq4 klp10_0.1 f24 | omega))
                refine lv_iinc (v := z44) (lv' := [(3, .int z44), (2, .int y3), (0, .ref (ad 0)), (1, .int p0)]) hx hb dX12_addCycle_59 hl (k := 0) rfl (by rw [ez44]; rfl) (by decide) rfl (fun ls hl => ?_)
                refine lv_goto (tgt := 20) hx hb dX12_addCycle_62 (by decide) ?_
                have kp9 := i_clamp (x := z41) rfl (by (first | exact om_917bfd6fc341 r1.1 xlp10_0 hz39 hz40 hz41 | omega))
                have kz9 := i_clamp (x := y8) rfl (by (first | exact om_cc81afcb7358 li9 xlp10_0 | omega))
                have hs9 := ptq (Int32.toNatClampNeg y8) (by omega)
                have pq45 : (V9 88 (Int32.toNatClampNeg y8)).toInt = ((V 88 (Int32.toNatClampNeg y8))).toInt := congrArg Int32.toInt (ajV9 88 (Int32.toNatClampNeg y8) rfl)
                exact ihlp10 z44 V43 H locs ls (by (first | exact om_80cb0e5086d2 pw dq4 li9 xlp10_0 f24 hz44 | omega)) (show y3.toInt ≤ z44.toInt from by (first | exact om_f75a30b4c815 xlp10_0 hz44 | omega)) (show z44.toInt ≤ (V 0 89).toInt from by (first | exact om_7fe9249fc074 f24 hz44 | omega)) (fun q hq => by rcases Decidable.em (24 * gF.1 + q = (Int32.toNatClampNeg z41)) with h9 | h9; (rw [h9, up2_s hV43, show gi + q = Int32.toNatClampNeg y8 from by omega]; omega); (rw [up2_k hV43 h9]; exact xlp10_2 q (by omega))) (fun q hq => (up2_k hV43 (by omega)).trans (xlp10_3 q hq)) (by (first | exact om_9592d9319ffa hn hz44 | omega)) (agr.up (agr.tr agr.rf ajV9 (by decide) (by decide)) hV43 rfl) hMV43 hP hD hS (lv_sub hl [0, 1, 2, 3] rfl)
        exact lp10 ((24 - y3.toInt + 1 : Int).toNat) y3 V H locs ls (by (first | exact om_ea6674265a34 dq4 gil klp4_0.1 xlp4_0 | omega)) (show y3.toInt ≤ y3.toInt from by (first | exact om_5977f3d8a10f | omega)) (show y3.toInt ≤ (V 0 89).toInt from by (first | exact om_d93806c1ff0c pw gil xlp4_0 | omega)) (fun q hq => absurd hq (by omega)) (fun q hq => rfl) (by (first | exact om_817980d3aa47 | omega)) agr.rf hMV hP hD hS (lv_sub hl [0, 1, 2, 3] rfl)
      · skip
        have f46 : ((V 88 (Int32.toNatClampNeg y3))).toInt ≠ p0.toInt := b_neq rfl rfl c6
        obtain ⟨z47, ez47⟩ : ∃ y : Int32, y = y3 + 1 := ⟨_, rfl⟩
        have hz47 : z47.toInt = y3.toInt + 1 := i_add ez47 rfl (by decide) (by (first | exact om_228f60f095f6 dq4 gil klp4_0.1 xlp4_0 | omega))
        refine lv_iinc (v := z47) (lv' := [(2, .int z47), (0, .ref (ad 0)), (1, .int p0)]) hx hb dX12_addCycle_12 hl (k := 0) rfl (by rw [ez47]; rfl) (by decide) rfl (fun ls hl => ?_)
        refine lv_goto (tgt := 2) hx hb dX12_addCycle_15 (by decide) ?_
        exact ihlp4 z47 H locs ls (by omega) (show z47.toInt ≤ ((gi : Nat) : Int) from by omega) (by (first | exact om_9592d9319ffa hn hz47 | omega)) hP hD hS (lv_sub hl [0, 1, 2] rfl)
  have r48 : Int32.toInt 0 = 0 := by decide
  exact lp4 ((24 - (Int32.toInt 0) + 1 : Int).toNat) 0 H locs ls (by decide) (show (Int32.toInt 0) ≤ ((gi : Nat) : Int) from by (first | exact om_f8f531ed37ab r48 | omega)) (by (first | exact om_817980d3aa47 | omega)) hP hD hS (lv_sub hl [0, 1, 2] rfl)
abbrev r_s_checkNeed6 : Room := { frames := 3, cells := 0, slots := 0, locals := 69 }
abbrev q_s_checkNeed6 (D : va_G) (ks : KS) (ad : Nat → Nat) (kk : Nat → ClassId) (V : Vf) (L : Lf) (p0 : Int32) (p1 : Int32) (bq : Nat) (gs : St) (gc : Nat) (gj : Nat) (gv : Nat → Int) (gF : FSt) (A : Nat → Prop) : Array Value → State → Outcome → State → Prop := va_Qv (fun (u : Vf × Lf) => rgd bM u.1 ∧ agr [(0, 81)] [80, 82, 83, 84, 86] V u.1 ∧ u.2 = L ∧ ((u.1 0 81).toInt ≤ (V 0 81).toInt + 1) ∧ ((V 0 81).toInt ≤ (u.1 0 81).toInt) ∧ (FLm u.1 (ndO gs.1 gv (gs.2.1 2).length gc gj gF)) ∧ (WRG (u.1 86 (8 * gc + gj)) gs.1 gv (gs.2.1 2).length gc gj) ∧ ((∀ q : Nat, q ≠ 8 * gc + gj → u.1 86 q = V 86 q))) (fun u t => gq D A (mw ad kk ks.1 u.1 u.2) (mty kk) t) A
set_option maxHeartbeats 4000000 in
set_option maxRecDepth 100000 in
theorem s_checkNeed6 (l : Launch) (D : va_G) (ks : KS) (sz : Nat) (ad : Nat → Nat) (kk : Nat → ClassId) (V : Vf) (L : Lf) (p0 : Int32) (p1 : Int32) (bq : Nat) (gs : St) (gc : Nat) (gj : Nat) (gv : Nat → Int) (gF : FSt) (hMV : rgd bM V) (rg_p0 : 0 ≤ p0.toInt ∧ p0.toInt ≤ 23) (rg_p1 : 0 ≤ p1.toInt ∧ p1.toInt ≤ 7) (zq1 : (bq : Int) = (V 0 11).toInt) (pk : p0.toInt = ((gc : Nat) : Int)) (pj : p1.toInt = ((gj : Nat) : Int)) (gcl : gc < (gs.2.1 2).length) (gjl : gj < gs.1 (66 + 8 * gc)) (t4 : T24 gs) (com : COM V bq gs) (wh : WHs gs) (ln : (V 19 bq).toInt = (((gs.2.1 2).length : Nat) : Int)) (hsv : svm V bq (gs.2.1 1).length = gv) (y2 : (V 0 81).toInt ≤ 999999) (flq : FLm V gF)  : Met l yX12_checkNeed (Cond.code yX12_checkNeed cX12_checkNeed 10 none :: GW) r_s_checkNeed6 (va_Pc [.ref (ad 0), .int p0, .int p1] (gp D ks (mw ad kk ks.1 V L) (mty kk) sz)) (q_s_checkNeed6 D ks ad kk V L p0 p1 bq gs gc gj gv gF (va_A (mw ad kk ks.1 V L) sz)) 0 0 (va_A (mw ad kk ks.1 V L) sz) := by
  refine g_met (q_s_checkNeed6 D ks ad kk V L p0 p1 bq gs gc gj gv gF) (by decide) (Nat.le_of_ble_eq_true rfl) ?_
  intro p e s m below meth c A ls H locs hx hb hr hml hown hg hlocks hin hnw hgk hP hK hD hS hA hl
  have hown : s.vm.findClass RX12 = some m.cls := hown
  have hl : lv_has ls 10 [(0, .ref (ad 0)), (1, .int p0), (2, .int p1)] := hl
  have hP : va_P D vwCl (mw ad kk ks.1 V L) H := hP
  have hD : va_D A (mw ad kk ks.1 V L) := hD
  have hK : va_K D vwCl (mty kk) s := hK
  have agV : agr [(0, 81)] [80, 82, 83, 84, 86] V V := agr.rf
  have r1 : 0 ≤ ((V 0 11)).toInt ∧ ((V 0 11)).toInt ≤ 1 := hMV 0 11
  have r2 : 0 ≤ ((V 19 bq)).toInt ∧ ((V 19 bq)).toInt ≤ 24 := hMV 19 bq
  have r3 : 0 ≤ ((V 0 81)).toInt ∧ ((V 0 81)).toInt ≤ 1000000 := hMV 0 81
  have kb9 : Int32.toNatClampNeg (V 0 11) = bq := by have h9 := i_clamp (x := V 0 11) rfl (by (first | exact om_eafa9039069c r1.1 | omega)); (first | exact om_7d9cc8d6a75e zq1 h9 | omega)
  have q19 : (V 19 (Int32.toNatClampNeg (V 0 11))).toInt = (V 19 bq).toInt := by rw [kb9]
  have t24 := (t4 gc gcl).2.2 gj gjl
  have kc0 : Int32.toNatClampNeg p0 = gc := by have h9 := i_clamp (x := p0) rfl (by (first | exact om_eafa9039069c rg_p0.1 | omega)); (first | exact om_c4e1e142d663 pk h9 | omega)
  have kc1 : Int32.toNatClampNeg p1 = gj := by have h9 := i_clamp (x := p1) rfl (by (first | exact om_eafa9039069c rg_p1.1 | omega)); (first | exact om_c4e1e142d663 pj h9 | omega)
  have s3c := (t4 gc gcl).1
  refine lv_bipush (v := 8) hx hb dX12_checkNeed_0 (by decide) ?_
  refine lv_bipush (v := 24) hx hb dX12_checkNeed_2 (by decide) ?_
  refine lv_aload_n hx hb dX12_checkNeed_4 rfl (lv_at hl 0 rfl) ?_
  refine va_get (D := D) (ci := 12) (v := .int (V 0 11)) (C := RX12) (T := TX12) (N := 100) hx hb hg inX12 hown hK hP 0 rfl rfl 11 (by decide) (hg _ w1717) (fun _ h9 => h9) rfl dX12_checkNeed_5 ?_
  refine lv_imul hx hb dX12_checkNeed_8 ?_
  refine lv_topi (fun z4 ez4 => ?_)
  have hz4 : z4.toInt = 24 * ((V 0 11)).toInt := i_mul ez4 (by decide) rfl (by (first | exact om_3f8aba7b6ce1 r1.1 r1.2 | omega))
  refine lv_iload_n hx hb dX12_checkNeed_9 rfl (lv_at hl 1 rfl) ?_
  refine lv_iadd hx hb dX12_checkNeed_10 ?_
  refine lv_topi (fun z5 ez5 => ?_)
  have hz5 : z5.toInt = z4.toInt + p0.toInt := i_add ez5 rfl rfl (by (first | exact om_6c84dfc0d33f rg_p0.1 rg_p0.2 r1.1 r1.2 hz4 | omega))
  refine lv_imul hx hb dX12_checkNeed_11 ?_
  refine lv_topi (fun z6 ez6 => ?_)
  have hz6 : z6.toInt = 8 * z5.toInt := i_mul ez6 (by decide) rfl (by (first | exact om_43f57588f3c1 rg_p0.1 rg_p0.2 r1.1 r1.2 hz4 hz5 | omega))
  refine lv_iload_n hx hb dX12_checkNeed_12 rfl (lv_at hl 2 rfl) ?_
  refine lv_iadd hx hb dX12_checkNeed_13 ?_
  refine lv_topi (fun z7 ez7 => ?_)
  have hz7 : z7.toInt = z6.toInt + p1.toInt := i_add ez7 rfl rfl (by (first | exact om_b6c1b024e6af rg_p0.1 rg_p0.2 rg_p1.1 rg_p1.2 r1.1 r1.2 hz4 hz5 hz6 | omega))
  refine lv_istore_n (lv' := [(3, .int z7), (0, .ref (ad 0)), (1, .int p0), (2, .int p1)]) hx hb dX12_checkNeed_14 rfl hl (by decide) rfl (fun ls hl => ?_)
  have kn9 : Int32.toNatClampNeg z7 = 8 * (24 * bq + gc) + gj := by have h9 := i_clamp (x := z7) rfl (by (first | exact om_0223b868096c rg_p0.1 rg_p1.1 r1.1 hz4 hz5 hz6 hz7 | omega)); (first | exact om_c5789a6ab549 zq1 pk pj hz4 hz5 hz6 hz7 h9 | omega)
  have ne9 := (com gc gcl).2.2.2 gj gjl
  unfold NEm at ne9
  rw [← kn9] at ne9
  have n29 := ne9.2.1
  have n30 := ne9.2.2.1
  refine lv_aload_n hx hb dX12_checkNeed_15 rfl (lv_at hl 1 rfl) ?_
  refine lv_iload_n hx hb dX12_checkNeed_16 rfl (lv_at hl 0 rfl) ?_
  refine gA_int (gA_runV (As := [.int z7]) (rest := []) (ci := 12) (q0 := 0) hx hb hml hown hg hP hD hK hS hA hnw hgk (s_candidatesOf6 l D ks H.size ad kk V L z7 (bq) (gs) (gc) (gj) hMV (by (first | exact om_8c842566bb12 rg_p0.1 rg_p0.2 rg_p1.1 rg_p1.2 r1.1 r1.2 hz4 hz5 hz6 hz7 | omega)) (show ((bq) : Int) = (V 0 11).toInt from by (first | exact om_639da7453e33 zq1 | omega)) (show z7.toInt = ((8 * (24 * (bq) + (gc)) + (gj) : Nat) : Int) from by (first | exact om_94f7a5085f4d zq1 pk pj hz4 hz5 hz6 hz7 | omega)) gcl gjl t24 com (show (V 19 (bq)).toInt = ((((gs).2.1 2).length : Nat) : Int) from by (first | exact om_08e0c9701055 ln | omega)) wh) w2172 w2174 w119 w172 w2175 rfl rfl hdV_yX12_candidatesOf ⟨Nat.le_of_ble_eq_true rfl, Nat.le_of_ble_eq_true rfl⟩ rfl hl.1 rfl (Nat.le_of_ble_eq_true rfl) dX12_checkNeed_17 ⟨Nat.le_of_ble_eq_true rfl, Nat.le_of_ble_eq_true rfl⟩) hP hD hK hS hA (fun z8 u9 H locs w10 hP hD hK hS => ?_)
  obtain ⟨V12, L13⟩ := u9
  obtain ⟨hMV12, ajV12, axL13, rgz8, t11⟩ := w10
  have axL13 : L = L13 := Eq.symm axL13
  subst axL13
  have hP : va_P D vwCl (mw ad kk ks.1 V12 L) H := hP
  have hD : va_D A (mw ad kk ks.1 V12 L) := hD
  have hMV12 : rgd bM V12 := hMV12
  have ajV12 : agr [] [80] V V12 := ajV12
  have agV12 : agr [(0, 81)] [80, 82, 83, 84, 86] V V12 := agV.tr ajV12 (by decide) (by decide)
  have rgz8 : 0 ≤ z8.toInt ∧ z8.toInt ≤ 24 := rgz8
  have t11 : CLV V12 80 (CLP (gs).1 (svm V (bq) ((gs).2.1 1).length) ((gs).1 (301 + 32 * (gc) + 4 * (gj))) ((gs).1 (300 + 32 * (gc) + 4 * (gj))) ((gs).1 (302 + 32 * (gc) + 4 * (gj))) ((gs).2.1 2).length ((gs).2.1 2).length) z8.toInt := t11
  refine lv_istore (lv' := [(4, .int z8), (3, .int z7), (0, .ref (ad 0)), (1, .int p0), (2, .int p1)]) hx hb dX12_checkNeed_20 hl (by decide) rfl (fun ls hl => ?_)
  have cv14 : CLV V12 80 (clF gs.1 gv (gs.2.1 2).length gc gj) z8.toInt := by have h9 := t11; rw [hsv] at h9; exact h9
  have ll9 := cv14.1
  refine lv_iload hx hb dX12_checkNeed_22 (lv_at hl 0 rfl) ?_
  refine lv_if_ne (tgt := 40) hx hb dX12_checkNeed_24 (by decide) (fun c15 => ?_) (fun c15 => ?_)
  · skip
    have f16 : z8.toInt ≠ 0 := b_neq rfl (by decide) c15
    refine lv_iconst (v := 0) hx hb dX12_checkNeed_40 (by decide) ?_
    refine lv_istore (lv' := [(5, .int 0), (4, .int z8), (3, .int z7), (0, .ref (ad 0)), (1, .int p0), (2, .int p1)]) hx hb dX12_checkNeed_41 hl (by decide) rfl (fun ls hl => ?_)
    refine lv_iload hx hb dX12_checkNeed_43 (lv_at hl 1 rfl) ?_
    refine lv_iconst (v := 1) hx hb dX12_checkNeed_45 (by decide) ?_
    refine lv_icmp_le (tgt := 62) hx hb dX12_checkNeed_46 (by decide) (fun c17 => ?_) (fun c17 => ?_)
    · skip
      have f18 : z8.toInt ≤ 1 := b_le rfl (by decide) c17
      refine lv_iconst (v := 0) hx hb dX12_checkNeed_62 (by decide) ?_
      refine lv_istore (lv' := [(6, .int 0), (5, .int 0), (4, .int z8), (3, .int z7), (0, .ref (ad 0)), (1, .int p0), (2, .int p1)]) hx hb dX12_checkNeed_63 hl (by decide) rfl (fun ls hl => ?_)
      refine lv_aload_n hx hb dX12_checkNeed_65 rfl (lv_at hl 4 rfl) ?_
      refine va_get (D := D) (ci := 12) (v := .ref (ad 86)) (C := RX12) (T := TX12) (N := 100) hx hb hg inX12 hown hK hP 0 rfl rfl 86 (by decide) (hg _ w1792) (fun _ h9 => h9) rfl dX12_checkNeed_66 ?_
      refine lv_bipush (v := 8) hx hb dX12_checkNeed_69 (by decide) ?_
      refine lv_iload_n hx hb dX12_checkNeed_71 rfl (lv_at hl 5 rfl) ?_
      refine lv_imul hx hb dX12_checkNeed_72 ?_
      refine lv_topi (fun z19 ez19 => ?_)
      have hz19 : z19.toInt = 8 * p0.toInt := i_mul ez19 (by decide) rfl (by (first | exact om_9e4b7225c539 rg_p0.1 rg_p0.2 | omega))
      refine lv_iload_n hx hb dX12_checkNeed_73 rfl (lv_at hl 6 rfl) ?_
      refine lv_iadd hx hb dX12_checkNeed_74 ?_
      refine lv_topi (fun z20 ez20 => ?_)
      have hz20 : z20.toInt = z19.toInt + p1.toInt := i_add ez20 rfl rfl (by (first | exact om_9f730d8f8954 rg_p0.1 rg_p0.2 rg_p1.1 rg_p1.2 hz19 | omega))
      refine lv_iload hx hb dX12_checkNeed_75 (lv_at hl 1 rfl) ?_
      refine lv_if_ne (tgt := 85) hx hb dX12_checkNeed_77 (by decide) (fun q => absurd rfl q) (fun _ => ?_)
      refine lv_iload hx hb dX12_checkNeed_80 (lv_at hl 0 rfl) ?_
      refine lv_if_eq (tgt := 89) hx hb dX12_checkNeed_82 (by decide) (fun _ => ?_) (fun q => absurd (by decide) q)
      refine lv_iconst (v := 0) hx hb dX12_checkNeed_89 (by decide) ?_
      refine va_zast (D := D) (i := z20) (x := 0) hx hb hK hP hD hS 62 61 rfl rfl (i_in (a := z20.toInt) rfl (by (first | exact om_acd96330a334 rg_p0.1 rg_p0.2 rg_p1.1 rg_p1.2 hz19 hz20 | omega))) dX12_checkNeed_90 (fun H locs hP hD hS => ?_)
      obtain ⟨V21, hV21⟩ : ∃ z, z = up2 V12 86 (Int32.toNatClampNeg z20) (vp_nar .boolean 0) := ⟨_, rfl⟩
      have hP : va_P D vwCl (mw ad kk ks.1 V21 L) H := by rw [hV21]; exact hP
      have hD : va_D A (mw ad kk ks.1 V21 L) := by rw [hV21]; exact hD
      have hMV21 : rgd bM V21 := hMV12.put hV21 (nar_b _)
      have agV21 : agr [(0, 81)] [80, 82, 83, 84, 86] V V21 := agV12.up hV21 rfl
      have kw9 : Int32.toNatClampNeg z20 = 8 * gc + gj := by have h9 := i_clamp (x := z20) rfl (by (first | exact om_f770854b4059 rg_p0.1 rg_p1.1 hz19 hz20 | omega)); (first | exact om_71ad80e3b9e8 pk pj hz19 hz20 h9 | omega)
      refine lv_iconst (v := 0) hx hb dX12_checkNeed_91 (by decide) ?_
      refine lv_istore (lv' := [(7, .int 0), (6, .int 0), (5, .int 0), (4, .int z8), (3, .int z7), (0, .ref (ad 0)), (1, .int p0), (2, .int p1)]) hx hb dX12_checkNeed_92 hl (by decide) rfl (fun ls hl => ?_)
      refine lv_iconst (v := 0) hx hb dX12_checkNeed_94 (by decide) ?_
      refine lv_istore (lv' := [(8, .int 0), (7, .int 0), (6, .int 0), (5, .int 0), (4, .int z8), (3, .int z7), (0, .ref (ad 0)), (1, .int p0), (2, .int p1)]) hx hb dX12_checkNeed_95 hl (by decide) rfl (fun ls hl => ?_)
      have lp24 : ∀ (fulp24 : Nat) (y22 : Int32) (y23 : Int32) (H : Heap) (locs : List Loc) (ls : Array Slot), 0 ≤ y22.toInt ∧ y22.toInt ≤ 24 → 0 ≤ y23.toInt ∧ y23.toInt ≤ 1 → y22.toInt ≤ z8.toInt → ((y23.toInt = 1 ∧ (gs.1 (301 + 32 * gc + 4 * gj)) ≠ 1 ∧ ∃ g, g ∈ (clF gs.1 gv (gs.2.1 2).length gc gj) ∧ shP gs.1 gc g = true) ∨ (y23.toInt = 0 ∧ ∀ i (h : i < (clF gs.1 gv (gs.2.1 2).length gc gj).length), i < y22.toInt.toNat → shP gs.1 gc (clF gs.1 gv (gs.2.1 2).length gc gj)[i] = false)) → z8.toInt - y22.toInt < (fulp24 : Int) → va_P D vwCl (mw ad kk ks.1 V21 L) H → va_D A (mw ad kk ks.1 V21 L) → va_S A s.heap H locs → lv_has ls 10 [(8, .int y22), (7, .int y23), (6, .int 0), (5, .int 0), (4, .int z8), (3, .int z7), (0, .ref (ad 0)), (1, .int p0), (2, .int p1)] → W p l e r_s_checkNeed6 s m ([.ref (ad 0), .int p0, .int p1] : List Value).toArray below meth c H locs 0 0 (MQ below (q_s_checkNeed6 D ks ad kk V L p0 p1 bq gs gc gj gv gF A) ([.ref (ad 0), .int p0, .int p1] : List Value).toArray s 0 0 A) (F0 m 97 ls []) := by
        intro fulp24
        induction fulp24 with
        | zero =>
          intro y22 y23 H locs ls klp24_0 klp24_1 xlp24_0 xlp24_1 hn  hP hD hS hl
          exfalso; (first | exact om_4634b1278845 xlp24_0 hn | omega)
        | succ fulp24 ihlp24 =>
          intro y22 y23 H locs ls klp24_0 klp24_1 xlp24_0 xlp24_1 hn  hP hD hS hl
          refine lv_iload hx hb dX12_checkNeed_97 (lv_at hl 0 rfl) ?_
          refine lv_iload hx hb dX12_checkNeed_99 (lv_at hl 4 rfl) ?_
          refine lv_icmp_ge (tgt := 184) hx hb dX12_checkNeed_101 (by decide) (fun c25 => ?_) (fun c25 => ?_)
          · skip
            have f26 : z8.toInt ≤ y22.toInt := b_le rfl rfl c25
            refine lv_iload hx hb dX12_checkNeed_184 (lv_at hl 3 rfl) ?_
            refine lv_if_ne (tgt := 199) hx hb dX12_checkNeed_186 (by decide) (fun q => absurd rfl q) (fun _ => ?_)
            refine lv_iload hx hb dX12_checkNeed_189 (lv_at hl 2 rfl) ?_
            refine lv_if_ne (tgt := 199) hx hb dX12_checkNeed_191 (by decide) (fun q => absurd rfl q) (fun _ => ?_)
            refine lv_iload hx hb dX12_checkNeed_194 (lv_at hl 1 rfl) ?_
            refine lv_if_eq (tgt := 224) hx hb dX12_checkNeed_196 (by decide) (fun c27 => ?_) (fun c27 => ?_)
            · skip
              have f28 : y23.toInt = 0 := b_eq rfl (by decide) c27
              have pq29 : (V21 0 81).toInt = ((V 0 81)).toInt := congrArg Int32.toInt ((up2_o hV21 (by decide)).trans (ajV12 0 81 rfl))
              have ft30 : ftP gs.1 gv (gs.2.1 2).length gc gj = 0 := ft_0 (show (gs.1 (301 + 32 * gc + 4 * gj)) = 2 ∨ (clF gs.1 gv (gs.2.1 2).length gc gj).length = 1 from by rcases Decidable.em ((gs.1 (301 + 32 * gc + 4 * gj)) = 2) with h9 | h9; exact Or.inl h9; (have h8 := mt n30.mp h9; right; omega)) (by rcases Decidable.em ((gs.1 (301 + 32 * gc + 4 * gj)) = 1) with h9 | h9; exact Or.inl h9; (right; intro g9 m9; obtain ⟨i9, hi9, e9⟩ := List.mem_iff_getElem.mp m9; rw [← e9]; have h8 := mt n29.mp h9; exact (xlp24_1.resolve_left (fun h7 => by have h6 := h7.1; omega)).2 i9 hi9 (by omega)))
              have wg31 : WRG (V21 86 (8 * gc + gj)) gs.1 gv (gs.2.1 2).length gc gj := Or.inr ⟨(by rw [← kw9, up2_s hV21]; decide), by omega⟩
              exact W.vret hx hb hr (fun t ht hW => ⟨⟨(V21, L), rfl, ⟨hMV21, agV21, rfl, (show (V21 0 81).toInt ≤ (V 0 81).toInt + 1 from by (first | exact om_c3b61c06432f pq29 | omega)), (show (V 0 81).toInt ≤ (V21 0 81).toInt from by (first | exact om_abdc88b0c8fc pq29 | omega)), (by rw [ndO_0 (by omega)]; exact FLm.fo flq (congrFun (by rw [(up2_fo hV21 (by decide) : V21 0 = V12 0), (funext (fun q => ajV12 0 q rfl) : V12 0 = V 0)] : V21 0 = V 0) 81) (by rw [(up2_fo hV21 (by decide) : V21 82 = V12 82), (funext (fun q => ajV12 82 q rfl) : V12 82 = V 82)] : V21 82 = V 82) (by rw [(up2_fo hV21 (by decide) : V21 83 = V12 83), (funext (fun q => ajV12 83 q rfl) : V12 83 = V 83)] : V21 83 = V 83) (by rw [(up2_fo hV21 (by decide) : V21 84 = V12 84), (funext (fun q => ajV12 84 q rfl) : V12 84 = V 84)] : V21 84 = V 84) (by rw [(up2_fo hV21 (by decide) : V21 85 = V12 85), (funext (fun q => ajV12 85 q rfl) : V12 85 = V 85)] : V21 85 = V 85)), wg31, (fun q9 h9 => (congrFun (rfl : V21 86 = V21 86) q9).trans ((up2_k hV21 (by rw [kw9]; exact h9)).trans (congrFun (by rw [(funext (fun q => ajV12 86 q rfl) : V12 86 = V 86)] : V12 86 = V 86) q9)))⟩, by rw [ht]; exact hP, va_K.moved hW.alike hK, hD⟩, hS.F ht⟩) hS.2.2 dX12_checkNeed_224
            · skip
              have f32 : y23.toInt ≠ 0 := b_neq rfl (by decide) c27
              have ft33 : ftP gs.1 gv (gs.2.1 2).length gc gj = 4 := by obtain ⟨k9, g9, a9, b9⟩ := (xlp24_1.resolve_right (fun h7 => by have h6 := h7.1; omega)).2; exact ft_4 (show (gs.1 (301 + 32 * gc + 4 * gj)) = 2 ∨ (clF gs.1 gv (gs.2.1 2).length gc gj).length = 1 from by rcases Decidable.em ((gs.1 (301 + 32 * gc + 4 * gj)) = 2) with h9 | h9; exact Or.inl h9; (have h8 := mt n30.mp h9; right; omega)) k9 a9 b9
              refine lv_aload_n hx hb dX12_checkNeed_199 rfl (lv_at hl 6 rfl) ?_
              refine lv_iload hx hb dX12_checkNeed_200 (lv_at hl 3 rfl) ?_
              refine lv_if_eq (tgt := 209) hx hb dX12_checkNeed_202 (by decide) (fun _ => ?_) (fun q => absurd (by decide) q)
              refine lv_iload hx hb dX12_checkNeed_209 (lv_at hl 2 rfl) ?_
              refine lv_if_eq (tgt := 218) hx hb dX12_checkNeed_211 (by decide) (fun _ => ?_) (fun q => absurd (by decide) q)
              refine lv_iconst (v := 4) hx hb dX12_checkNeed_218 (by decide) ?_
              refine lv_iload_n hx hb dX12_checkNeed_219 rfl (lv_at hl 7 rfl) ?_
              refine lv_iload_n hx hb dX12_checkNeed_220 rfl (lv_at hl 8 rfl) ?_
              have r34 : Int32.toInt 4 = 4 := by decide
              have pq35 : (V21 0 81).toInt = ((V 0 81)).toInt := congrArg Int32.toInt ((up2_o hV21 (by decide)).trans (ajV12 0 81 rfl))
              refine gA_void (gA_runV (As := [.int 4, .int p0, .int p1]) (rest := []) (ci := 12) (q0 := 0) hx hb hml hown hg hP hD hK hS hA hnw hgk (s_addFault6 l D ks H.size ad kk V21 L 4 p0 p1 (gF) (ftP gs.1 gv (gs.2.1 2).length gc gj) (gc) (gj) (fun _ => 0) hMV21 (by (first | exact om_b6da0344f992 rg_p1.1 rg_p1.2 | omega)) (show (V21 0 81).toInt ≤ 999999 from by (first | exact om_92a90bb16346 y2 pq35 | omega)) (show (Int32.toInt 4) = (((ftP gs.1 gv (gs.2.1 2).length gc gj) : Nat) : Int) from by (first | exact om_259ff51de1b6 ft33 r34 | omega)) (show p0.toInt = (((gc) : Nat) : Int) from by (first | exact om_08e0c9701055 pk | omega)) (show p1.toInt = (((gj) : Nat) : Int) from by (first | exact om_08e0c9701055 pj | omega)) (FLm.fo flq (congrFun (by rw [(up2_fo hV21 (by decide) : V21 0 = V12 0), (funext (fun q => ajV12 0 q rfl) : V12 0 = V 0)] : V21 0 = V 0) 81) (by rw [(up2_fo hV21 (by decide) : V21 82 = V12 82), (funext (fun q => ajV12 82 q rfl) : V12 82 = V 82)] : V21 82 = V 82) (by rw [(up2_fo hV21 (by decide) : V21 83 = V12 83), (funext (fun q => ajV12 83 q rfl) : V12 83 = V 83)] : V21 83 = V 83) (by rw [(up2_fo hV21 (by decide) : V21 84 = V12 84), (funext (fun q => ajV12 84 q rfl) : V12 84 = V 84)] : V21 84 = V 84) (by rw [(up2_fo hV21 (by decide) : V21 85 = V12 85), (funext (fun q => ajV12 85 q rfl) : V12 85 = V 85)] : V21 85 = V 85)) (fun h3 => absurd h3 ft_ne3) (fun h3 => absurd h3 ft_ne3)) w2183 w2185 w121 w172 w2186 rfl rfl hdV_yX12_addFault ⟨Nat.le_of_ble_eq_true rfl, Nat.le_of_ble_eq_true rfl⟩ rfl hl.1 rfl (Nat.le_of_ble_eq_true rfl) dX12_checkNeed_221 ⟨Nat.le_of_ble_eq_true rfl, Nat.le_of_ble_eq_true rfl⟩) hP hD hK hS hA (fun u37 H locs w38 hP hD hK hS => ?_)
              obtain ⟨V41, L42⟩ := u37
              obtain ⟨hMV41, ajV41, axL42, t39, t40⟩ := w38
              have axL42 : L = L42 := Eq.symm axL42
              subst axL42
              have hP : va_P D vwCl (mw ad kk ks.1 V41 L) H := hP
              have hD : va_D A (mw ad kk ks.1 V41 L) := hD
              have hMV41 : rgd bM V41 := hMV41
              have ajV41 : agr [(0, 81)] [82, 83, 84] V21 V41 := ajV41
              have agV41 : agr [(0, 81)] [80, 82, 83, 84, 86] V V41 := agV21.tr ajV41 (by decide) (by decide)
              have t39 : (V41 0 81).toInt = (V21 0 81).toInt + 1 := t39
              have t40 : FLm V41 (adF (gF) (ftP gs.1 gv (gs.2.1 2).length gc gj) (gc) (gj) (fun _ => 0)) := t40
              have r43 : 0 ≤ ((V41 0 81)).toInt ∧ ((V41 0 81)).toInt ≤ 1000000 := hMV41 0 81
              have wg44 : WRG (V41 86 (8 * gc + gj)) gs.1 gv (gs.2.1 2).length gc gj := Or.inr ⟨(by rw [← kw9, (by rw [(funext (fun q => ajV41 86 q rfl) : V41 86 = V21 86)] : V41 86 = V21 86), up2_s hV21]; decide), by omega⟩
              exact W.vret hx hb hr (fun t ht hW => ⟨⟨(V41, L), rfl, ⟨hMV41, agV41, rfl, (show (V41 0 81).toInt ≤ (V 0 81).toInt + 1 from by (first | exact om_4073e2f93091 pq35 t39 | omega)), (show (V 0 81).toInt ≤ (V41 0 81).toInt from by (first | exact om_7fa199aab32e pq35 t39 | omega)), (by rw [ndO_1 (by omega)]; exact t40), wg44, (fun q9 h9 => (congrFun (by rw [(funext (fun q => ajV41 86 q rfl) : V41 86 = V21 86)] : V41 86 = V21 86) q9).trans ((up2_k hV21 (by rw [kw9]; exact h9)).trans (congrFun (by rw [(funext (fun q => ajV12 86 q rfl) : V12 86 = V 86)] : V12 86 = V 86) q9)))⟩, by rw [ht]; exact hP, va_K.moved hW.alike hK, hD⟩, hS.F ht⟩) hS.2.2 dX12_checkNeed_224
          · skip
            have f45 : y22.toInt < z8.toInt := b_nle rfl rfl c25
            refine lv_aload_n hx hb dX12_checkNeed_104 rfl (lv_at hl 6 rfl) ?_
            refine va_get (D := D) (ci := 12) (v := .ref (ad 29)) (C := RX12) (T := TX12) (N := 100) hx hb hg inX12 hown hK hP 0 rfl rfl 29 (by decide) (hg _ w1735) (fun _ h9 => h9) rfl dX12_checkNeed_105 ?_
            refine lv_iload_n hx hb dX12_checkNeed_108 rfl (lv_at hl 5 rfl) ?_
            refine va_zald (D := D) (i := z7) hx hb hK hP 22 21 rfl rfl (i_in (a := z7.toInt) rfl (by (first | exact om_fbf295219f60 rg_p0.1 rg_p0.2 rg_p1.1 rg_p1.2 r1.1 r1.2 hz4 hz5 hz6 hz7 | omega))) dX12_checkNeed_109 ?_
            refine g_top (v := (V 29 (Int32.toNatClampNeg z7))) ((up2_o hV21 (by decide)).trans (ajV12 29 (Int32.toNatClampNeg z7) rfl)) ?_
            have r46 : 0 ≤ ((V 29 (Int32.toNatClampNeg z7))).toInt ∧ ((V 29 (Int32.toNatClampNeg z7))).toInt ≤ 1 := hMV 29 (Int32.toNatClampNeg z7)
            refine lv_if_ne (tgt := 184) hx hb dX12_checkNeed_110 (by decide) (fun c47 => ?_) (fun c47 => ?_)
            · skip
              have f48 : ((V 29 (Int32.toNatClampNeg z7))).toInt ≠ 0 := b_neq rfl (by decide) c47
              refine lv_iload hx hb dX12_checkNeed_184 (lv_at hl 3 rfl) ?_
              refine lv_if_ne (tgt := 199) hx hb dX12_checkNeed_186 (by decide) (fun q => absurd rfl q) (fun _ => ?_)
              refine lv_iload hx hb dX12_checkNeed_189 (lv_at hl 2 rfl) ?_
              refine lv_if_ne (tgt := 199) hx hb dX12_checkNeed_191 (by decide) (fun q => absurd rfl q) (fun _ => ?_)
              refine lv_iload hx hb dX12_checkNeed_194 (lv_at hl 1 rfl) ?_
              refine lv_if_eq (tgt := 224) hx hb dX12_checkNeed_196 (by decide) (fun c49 => ?_) (fun c49 => ?_)
              · skip
                have f50 : y23.toInt = 0 := b_eq rfl (by decide) c49
                have pq51 : (V21 0 81).toInt = ((V 0 81)).toInt := congrArg Int32.toInt ((up2_o hV21 (by decide)).trans (ajV12 0 81 rfl))
                have ft52 : ftP gs.1 gv (gs.2.1 2).length gc gj = 0 := ft_0 (show (gs.1 (301 + 32 * gc + 4 * gj)) = 2 ∨ (clF gs.1 gv (gs.2.1 2).length gc gj).length = 1 from by rcases Decidable.em ((gs.1 (301 + 32 * gc + 4 * gj)) = 2) with h9 | h9; exact Or.inl h9; (have h8 := mt n30.mp h9; right; omega)) (by rcases Decidable.em ((gs.1 (301 + 32 * gc + 4 * gj)) = 1) with h9 | h9; exact Or.inl h9; (right; intro g9 m9; obtain ⟨i9, hi9, e9⟩ := List.mem_iff_getElem.mp m9; rw [← e9]; have h8 := mt n29.mp h9; exact (xlp24_1.resolve_left (fun h7 => by have h6 := h7.1; omega)).2 i9 hi9 (by omega)))
                have wg53 : WRG (V21 86 (8 * gc + gj)) gs.1 gv (gs.2.1 2).length gc gj := Or.inr ⟨(by rw [← kw9, up2_s hV21]; decide), by omega⟩
                exact W.vret hx hb hr (fun t ht hW => ⟨⟨(V21, L), rfl, ⟨hMV21, agV21, rfl, (show (V21 0 81).toInt ≤ (V 0 81).toInt + 1 from by (first | exact om_c3b61c06432f pq51 | omega)), (show (V 0 81).toInt ≤ (V21 0 81).toInt from by (first | exact om_abdc88b0c8fc pq51 | omega)), (by rw [ndO_0 (by omega)]; exact FLm.fo flq (congrFun (by rw [(up2_fo hV21 (by decide) : V21 0 = V12 0), (funext (fun q => ajV12 0 q rfl) : V12 0 = V 0)] : V21 0 = V 0) 81) (by rw [(up2_fo hV21 (by decide) : V21 82 = V12 82), (funext (fun q => ajV12 82 q rfl) : V12 82 = V 82)] : V21 82 = V 82) (by rw [(up2_fo hV21 (by decide) : V21 83 = V12 83), (funext (fun q => ajV12 83 q rfl) : V12 83 = V 83)] : V21 83 = V 83) (by rw [(up2_fo hV21 (by decide) : V21 84 = V12 84), (funext (fun q => ajV12 84 q rfl) : V12 84 = V 84)] : V21 84 = V 84) (by rw [(up2_fo hV21 (by decide) : V21 85 = V12 85), (funext (fun q => ajV12 85 q rfl) : V12 85 = V 85)] : V21 85 = V 85)), wg53, (fun q9 h9 => (congrFun (rfl : V21 86 = V21 86) q9).trans ((up2_k hV21 (by rw [kw9]; exact h9)).trans (congrFun (by rw [(funext (fun q => ajV12 86 q rfl) : V12 86 = V 86)] : V12 86 = V 86) q9)))⟩, by rw [ht]; exact hP, va_K.moved hW.alike hK, hD⟩, hS.F ht⟩) hS.2.2 dX12_checkNeed_224
              · skip
                have f54 : y23.toInt ≠ 0 := b_neq rfl (by decide) c49
                have ft55 : ftP gs.1 gv (gs.2.1 2).length gc gj = 4 := by obtain ⟨k9, g9, a9, b9⟩ := (xlp24_1.resolve_right (fun h7 => by have h6 := h7.1; omega)).2; exact ft_4 (show (gs.1 (301 + 32 * gc + 4 * gj)) = 2 ∨ (clF gs.1 gv (gs.2.1 2).length gc gj).length = 1 from by rcases Decidable.em ((gs.1 (301 + 32 * gc + 4 * gj)) = 2) with h9 | h9; exact Or.inl h9; (have h8 := mt n30.mp h9; right; omega)) k9 a9 b9
                refine lv_aload_n hx hb dX12_checkNeed_199 rfl (lv_at hl 6 rfl) ?_
                refine lv_iload hx hb dX12_checkNeed_200 (lv_at hl 3 rfl) ?_
                refine lv_if_eq (tgt := 209) hx hb dX12_checkNeed_202 (by decide) (fun _ => ?_) (fun q => absurd (by decide) q)
                refine lv_iload hx hb dX12_checkNeed_209 (lv_at hl 2 rfl) ?_
                refine lv_if_eq (tgt := 218) hx hb dX12_checkNeed_211 (by decide) (fun _ => ?_) (fun q => absurd (by decide) q)
                refine lv_iconst (v := 4) hx hb dX12_checkNeed_218 (by decide) ?_
                refine lv_iload_n hx hb dX12_checkNeed_219 rfl (lv_at hl 7 rfl) ?_
                refine lv_iload_n hx hb dX12_checkNeed_220 rfl (lv_at hl 8 rfl) ?_
                have r56 : Int32.toInt 4 = 4 := by decide
                have pq57 : (V21 0 81).toInt = ((V 0 81)).toInt := congrArg Int32.toInt ((up2_o hV21 (by decide)).trans (ajV12 0 81 rfl))
                refine gA_void (gA_runV (As := [.int 4, .int p0, .int p1]) (rest := []) (ci := 12) (q0 := 0) hx hb hml hown hg hP hD hK hS hA hnw hgk (s_addFault6 l D ks H.size ad kk V21 L 4 p0 p1 (gF) (ftP gs.1 gv (gs.2.1 2).length gc gj) (gc) (gj) (fun _ => 0) hMV21 (by (first | exact om_b6da0344f992 rg_p1.1 rg_p1.2 | omega)) (show (V21 0 81).toInt ≤ 999999 from by (first | exact om_92a90bb16346 y2 pq57 | omega)) (show (Int32.toInt 4) = (((ftP gs.1 gv (gs.2.1 2).length gc gj) : Nat) : Int) from by (first | exact om_259ff51de1b6 ft55 r56 | omega)) (show p0.toInt = (((gc) : Nat) : Int) from by (first | exact om_08e0c9701055 pk | omega)) (show p1.toInt = (((gj) : Nat) : Int) from by (first | exact om_08e0c9701055 pj | omega)) (FLm.fo flq (congrFun (by rw [(up2_fo hV21 (by decide) : V21 0 = V12 0), (funext (fun q => ajV12 0 q rfl) : V12 0 = V 0)] : V21 0 = V 0) 81) (by rw [(up2_fo hV21 (by decide) : V21 82 = V12 82), (funext (fun q => ajV12 82 q rfl) : V12 82 = V 82)] : V21 82 = V 82) (by rw [(up2_fo hV21 (by decide) : V21 83 = V12 83), (funext (fun q => ajV12 83 q rfl) : V12 83 = V 83)] : V21 83 = V 83) (by rw [(up2_fo hV21 (by decide) : V21 84 = V12 84), (funext (fun q => ajV12 84 q rfl) : V12 84 = V 84)] : V21 84 = V 84) (by rw [(up2_fo hV21 (by decide) : V21 85 = V12 85), (funext (fun q => ajV12 85 q rfl) : V12 85 = V 85)] : V21 85 = V 85)) (fun h3 => absurd h3 ft_ne3) (fun h3 => absurd h3 ft_ne3)) w2183 w2185 w121 w172 w2186 rfl rfl hdV_yX12_addFault ⟨Nat.le_of_ble_eq_true rfl, Nat.le_of_ble_eq_true rfl⟩ rfl hl.1 rfl (Nat.le_of_ble_eq_true rfl) dX12_checkNeed_221 ⟨Nat.le_of_ble_eq_true rfl, Nat.le_of_ble_eq_true rfl⟩) hP hD hK hS hA (fun u59 H locs w60 hP hD hK hS => ?_)
                obtain ⟨V63, L64⟩ := u59
                obtain ⟨hMV63, ajV63, axL64, t61, t62⟩ := w60
                have axL64 : L = L64 := Eq.symm axL64
                subst axL64
                have hP : va_P D vwCl (mw ad kk ks.1 V63 L) H := hP
                have hD : va_D A (mw ad kk ks.1 V63 L) := hD
                have hMV63 : rgd bM V63 := hMV63
                have ajV63 : agr [(0, 81)] [82, 83, 84] V21 V63 := ajV63
                have agV63 : agr [(0, 81)] [80, 82, 83, 84, 86] V V63 := agV21.tr ajV63 (by decide) (by decide)
                have t61 : (V63 0 81).toInt = (V21 0 81).toInt + 1 := t61
                have t62 : FLm V63 (adF (gF) (ftP gs.1 gv (gs.2.1 2).length gc gj) (gc) (gj) (fun _ => 0)) := t62
                have r65 : 0 ≤ ((V63 0 81)).toInt ∧ ((V63 0 81)).toInt ≤ 1000000 := hMV63 0 81
                have wg66 : WRG (V63 86 (8 * gc + gj)) gs.1 gv (gs.2.1 2).length gc gj := Or.inr ⟨(by rw [← kw9, (by rw [(funext (fun q => ajV63 86 q rfl) : V63 86 = V21 86)] : V63 86 = V21 86), up2_s hV21]; decide), by omega⟩
                exact W.vret hx hb hr (fun t ht hW => ⟨⟨(V63, L), rfl, ⟨hMV63, agV63, rfl, (show (V63 0 81).toInt ≤ (V 0 81).toInt + 1 from by (first | exact om_4073e2f93091 pq57 t61 | omega)), (show (V 0 81).toInt ≤ (V63 0 81).toInt from by (first | exact om_7fa199aab32e pq57 t61 | omega)), (by rw [ndO_1 (by omega)]; exact t62), wg66, (fun q9 h9 => (congrFun (by rw [(funext (fun q => ajV63 86 q rfl) : V63 86 = V21 86)] : V63 86 = V21 86) q9).trans ((up2_k hV21 (by rw [kw9]; exact h9)).trans (congrFun (by rw [(funext (fun q => ajV12 86 q rfl) : V12 86 = V 86)] : V12 86 = V 86) q9)))⟩, by rw [ht]; exact hP, va_K.moved hW.alike hK, hD⟩, hS.F ht⟩) hS.2.2 dX12_checkNeed_224
            · skip
              have f67 : ((V 29 (Int32.toNatClampNeg z7))).toInt = 0 := b_eq rfl (by decide) c47
              have ky9 := i_clamp (x := y22) rfl (by (first | exact om_eafa9039069c klp24_0.1 | omega))
              have hK9 : (Int32.toNatClampNeg y22) < (clF gs.1 gv (gs.2.1 2).length gc gj).length := by omega
              have cv9 : (V12 80 (Int32.toNatClampNeg y22)).toInt = (((clF gs.1 gv (gs.2.1 2).length gc gj)[(Int32.toNatClampNeg y22)] : Nat) : Int) := cv14.2 (Int32.toNatClampNeg y22) hK9
              have gl9 : (clF gs.1 gv (gs.2.1 2).length gc gj)[(Int32.toNatClampNeg y22)] < (gs.2.1 2).length := clF_lt (List.getElem_mem hK9)
              have pq68 : (V21 80 (Int32.toNatClampNeg y22)).toInt = ((V12 80 (Int32.toNatClampNeg y22))).toInt := congrArg Int32.toInt (up2_o hV21 (by decide))
              have r69 : 0 ≤ ((V12 80 (Int32.toNatClampNeg y22))).toInt ∧ ((V12 80 (Int32.toNatClampNeg y22))).toInt ≤ 23 := hMV12 80 (Int32.toNatClampNeg y22)
              refine lv_aload_n hx hb dX12_checkNeed_113 rfl (lv_at hl 6 rfl) ?_
              refine va_get (D := D) (ci := 12) (v := .ref (ad 22)) (C := RX12) (T := TX12) (N := 100) hx hb hg inX12 hown hK hP 0 rfl rfl 22 (by decide) (hg _ w1728) (fun _ h9 => h9) rfl dX12_checkNeed_114 ?_
              refine lv_bipush (v := 24) hx hb dX12_checkNeed_117 (by decide) ?_
              refine lv_aload_n hx hb dX12_checkNeed_119 rfl (lv_at hl 6 rfl) ?_
              refine va_get (D := D) (ci := 12) (v := .int (V21 0 11)) (C := RX12) (T := TX12) (N := 100) hx hb hg inX12 hown hK hP 0 rfl rfl 11 (by decide) (hg _ w1717) (fun _ h9 => h9) rfl dX12_checkNeed_120 ?_
              refine g_top (v := (V 0 11)) ((up2_o hV21 (by decide)).trans (ajV12 0 11 rfl)) ?_
              refine lv_imul hx hb dX12_checkNeed_123 ?_
              refine lv_topi (fun z70 ez70 => ?_)
              have hz70 : z70.toInt = 24 * ((V 0 11)).toInt := i_mul ez70 (by decide) rfl (by (first | exact om_3f8aba7b6ce1 r1.1 r1.2 | omega))
              refine lv_aload_n hx hb dX12_checkNeed_124 rfl (lv_at hl 6 rfl) ?_
              refine va_get (D := D) (ci := 12) (v := .ref (ad 80)) (C := RX12) (T := TX12) (N := 100) hx hb hg inX12 hown hK hP 0 rfl rfl 80 (by decide) (hg _ w1786) (fun _ h9 => h9) rfl dX12_checkNeed_125 ?_
              refine lv_iload hx hb dX12_checkNeed_128 (lv_at hl 0 rfl) ?_
              refine va_iald (D := D) (i := y22) hx hb hK hP 57 56 rfl rfl (i_in (a := y22.toInt) rfl (by (first | exact om_99a4c130eb31 f18 klp24_0.1 f45 | omega))) dX12_checkNeed_130 ?_
              refine g_top (v := (V12 80 (Int32.toNatClampNeg y22))) (up2_o hV21 (by decide)) ?_
              refine lv_iadd hx hb dX12_checkNeed_131 ?_
              refine lv_topi (fun z71 ez71 => ?_)
              have hz71 : z71.toInt = z70.toInt + ((V12 80 (Int32.toNatClampNeg y22))).toInt := i_add ez71 rfl rfl (by (first | exact om_78286008d1d3 r1.1 r1.2 r69.1 r69.2 hz70 | omega))
              refine va_iald (D := D) (i := z71) hx hb hK hP 15 14 rfl rfl (i_in (a := z71.toInt) rfl (by (first | exact om_c17671f562fa r1.1 r1.2 r69.1 r69.2 hz70 hz71 | omega))) dX12_checkNeed_132 ?_
              refine g_top (v := (V 22 (Int32.toNatClampNeg z71))) ((up2_o hV21 (by decide)).trans (ajV12 22 (Int32.toNatClampNeg z71) rfl)) ?_
              refine lv_istore (lv' := [(9, .int (V 22 (Int32.toNatClampNeg z71))), (8, .int y22), (7, .int y23), (6, .int 0), (5, .int 0), (4, .int z8), (3, .int z7), (0, .ref (ad 0)), (1, .int p0), (2, .int p1)]) hx hb dX12_checkNeed_133 hl (by decide) rfl (fun ls hl => ?_)
              have h22 : (V 22 (Int32.toNatClampNeg z71)).toInt = ((gs.1 (61 + 8 * (clF gs.1 gv (gs.2.1 2).length gc gj)[(Int32.toNatClampNeg y22)]) : Nat) : Int) := by rw [show Int32.toNatClampNeg z71 = 24 * bq + (clF gs.1 gv (gs.2.1 2).length gc gj)[(Int32.toNatClampNeg y22)] from by have h9 := i_clamp (x := z71) rfl (by (first | exact om_19aed6992cbe r1.1 r69.1 hz70 hz71 | omega)); omega]; exact (com _ gl9).1.2.1
              have s3k := (t4 _ gl9).1
              refine lv_iload hx hb dX12_checkNeed_135 (lv_at hl 2 rfl) ?_
              refine lv_if_ne (tgt := 171) hx hb dX12_checkNeed_137 (by decide) (fun c72 => ?_) (fun c72 => ?_)
              · skip
                have f73 : y23.toInt ≠ 0 := b_neq rfl (by decide) c72
                refine lv_iconst (v := 1) hx hb dX12_checkNeed_171 (by decide) ?_
                refine lv_goto (tgt := 176) hx hb dX12_checkNeed_172 (by decide) ?_
                refine lv_istore (lv' := [(7, .int 1), (9, .int (V 22 (Int32.toNatClampNeg z71))), (8, .int y22), (6, .int 0), (5, .int 0), (4, .int z8), (3, .int z7), (0, .ref (ad 0)), (1, .int p0), (2, .int p1)]) hx hb dX12_checkNeed_176 hl (by decide) rfl (fun ls hl => ?_)
                obtain ⟨z74, ez74⟩ : ∃ y : Int32, y = y22 + 1 := ⟨_, rfl⟩
                have hz74 : z74.toInt = y22.toInt + 1 := i_add ez74 rfl (by decide) (by (first | exact om_011f32c1c680 f18 klp24_0.1 f45 | omega))
                refine lv_iinc (v := z74) (lv' := [(8, .int z74), (7, .int 1), (9, .int (V 22 (Int32.toNatClampNeg z71))), (6, .int 0), (5, .int 0), (4, .int z8), (3, .int z7), (0, .ref (ad 0)), (1, .int p0), (2, .int p1)]) hx hb dX12_checkNeed_178 hl (k := 2) rfl (by rw [ez74]; rfl) (by decide) rfl (fun ls hl => ?_)
                refine lv_goto (tgt := 97) hx hb dX12_checkNeed_181 (by decide) ?_
                have r75 : Int32.toInt 1 = 1 := by decide
                have r76 : Int32.toInt 0 = 0 := by decide
                exact ihlp24 z74 1 H locs ls (by (first | exact om_62cd0ceff94e f18 klp24_0.1 f45 hz74 | omega)) (by decide) (show z74.toInt ≤ z8.toInt from by (first | exact om_7fe9249fc074 f45 hz74 | omega)) (Or.inl ⟨rfl, (xlp24_1.resolve_right (fun h7 => by have h6 := h7.1; omega)).2⟩) (by (first | exact om_9e7d2b874257 hn hz74 | omega)) hP hD hS (lv_sub hl [0, 1, 3, 4, 5, 6, 7, 8, 9] rfl)
              · skip
                have f77 : y23.toInt = 0 := b_eq rfl (by decide) c72
                refine lv_iload hx hb dX12_checkNeed_140 (lv_at hl 0 rfl) ?_
                refine lv_iconst (v := 3) hx hb dX12_checkNeed_142 (by decide) ?_
                refine lv_icmp_eq (tgt := 175) hx hb dX12_checkNeed_143 (by decide) (fun c78 => ?_) (fun c78 => ?_)
                · skip
                  have f79 : ((V 22 (Int32.toNatClampNeg z71))).toInt = 3 := b_eq rfl (by decide) c78
                  refine lv_iconst (v := 0) hx hb dX12_checkNeed_175 (by decide) ?_
                  refine lv_istore (lv' := [(7, .int 0), (9, .int (V 22 (Int32.toNatClampNeg z71))), (8, .int y22), (6, .int 0), (5, .int 0), (4, .int z8), (3, .int z7), (0, .ref (ad 0)), (1, .int p0), (2, .int p1)]) hx hb dX12_checkNeed_176 hl (by decide) rfl (fun ls hl => ?_)
                  obtain ⟨z80, ez80⟩ : ∃ y : Int32, y = y22 + 1 := ⟨_, rfl⟩
                  have hz80 : z80.toInt = y22.toInt + 1 := i_add ez80 rfl (by decide) (by (first | exact om_011f32c1c680 f18 klp24_0.1 f45 | omega))
                  refine lv_iinc (v := z80) (lv' := [(8, .int z80), (7, .int 0), (9, .int (V 22 (Int32.toNatClampNeg z71))), (6, .int 0), (5, .int 0), (4, .int z8), (3, .int z7), (0, .ref (ad 0)), (1, .int p0), (2, .int p1)]) hx hb dX12_checkNeed_178 hl (k := 2) rfl (by rw [ez80]; rfl) (by decide) rfl (fun ls hl => ?_)
                  refine lv_goto (tgt := 97) hx hb dX12_checkNeed_181 (by decide) ?_
                  have r81 : Int32.toInt 0 = 0 := by decide
                  exact ihlp24 z80 0 H locs ls (by (first | exact om_62cd0ceff94e f18 klp24_0.1 f45 hz80 | omega)) (by decide) (show z80.toInt ≤ z8.toInt from by (first | exact om_7fe9249fc074 f45 hz80 | omega)) (Or.inr ⟨rfl, fun i hi h9 => by rcases Decidable.em (i = (Int32.toNatClampNeg y22)) with h8 | h8; (subst h8; exact shP_n (by omega)); exact (xlp24_1.resolve_left (fun h7 => by have h6 := h7.1; omega)).2 i hi (by omega)⟩) (by (first | exact om_9e7d2b874257 hn hz80 | omega)) hP hD hS (lv_sub hl [0, 1, 3, 4, 5, 6, 7, 8, 9] rfl)
                · skip
                  have f82 : ((V 22 (Int32.toNatClampNeg z71))).toInt ≠ 3 := b_neq rfl (by decide) c78
                  refine lv_iload hx hb dX12_checkNeed_146 (lv_at hl 0 rfl) ?_
                  refine gE_int (g_runS (As := [.int (V 22 (Int32.toNatClampNeg z71))]) (rest := []) (wc := []) (tc := []) hx hb hml hown hg gw_self hP hD hK hS hA hnw hgk [] [] (by decide) rfl rfl (s_longness6 l D ks H.size (V 22 (Int32.toNatClampNeg z71)) ) w2180 w2181 w172 w2182 hdS_yX12_longness ⟨Nat.le_of_ble_eq_true rfl, Nat.le_of_ble_eq_true rfl⟩ rfl hl.1 rfl (Nat.le_of_ble_eq_true rfl) dX12_checkNeed_148 ⟨Nat.le_of_ble_eq_true rfl, Nat.le_of_ble_eq_true rfl⟩) hP hD hK hS hA (fun z83 u84 H locs w85 hP hD hK hS => ?_)
                  obtain ⟨rgz83, t86⟩ := w85
                  have rgz83 : 1 ≤ z83.toInt ∧ z83.toInt ≤ 3 := rgz83
                  have t86 : (((V 22 (Int32.toNatClampNeg z71))).toInt = 0 ∧ z83.toInt = 3) ∨ (((V 22 (Int32.toNatClampNeg z71))).toInt = 1 ∧ z83.toInt = 2) ∨ (((V 22 (Int32.toNatClampNeg z71))).toInt ≠ 0 ∧ ((V 22 (Int32.toNatClampNeg z71))).toInt ≠ 1 ∧ z83.toInt = 1) := t86
                  refine lv_aload_n hx hb dX12_checkNeed_151 rfl (lv_at hl 7 rfl) ?_
                  refine va_get (D := D) (ci := 12) (v := .ref (ad 22)) (C := RX12) (T := TX12) (N := 100) hx hb hg inX12 hown hK hP 0 rfl rfl 22 (by decide) (hg _ w1728) (fun _ h9 => h9) rfl dX12_checkNeed_152 ?_
                  refine lv_bipush (v := 24) hx hb dX12_checkNeed_155 (by decide) ?_
                  refine lv_aload_n hx hb dX12_checkNeed_157 rfl (lv_at hl 7 rfl) ?_
                  refine va_get (D := D) (ci := 12) (v := .int (V21 0 11)) (C := RX12) (T := TX12) (N := 100) hx hb hg inX12 hown hK hP 0 rfl rfl 11 (by decide) (hg _ w1717) (fun _ h9 => h9) rfl dX12_checkNeed_158 ?_
                  refine g_top (v := (V 0 11)) ((up2_o hV21 (by decide)).trans (ajV12 0 11 rfl)) ?_
                  refine lv_imul hx hb dX12_checkNeed_161 ?_
                  refine lv_topi (fun z87 ez87 => ?_)
                  have hz87 : z87.toInt = 24 * ((V 0 11)).toInt := i_mul ez87 (by decide) rfl (by (first | exact om_3f8aba7b6ce1 r1.1 r1.2 | omega))
                  refine lv_iload_n hx hb dX12_checkNeed_162 rfl (lv_at hl 8 rfl) ?_
                  refine lv_iadd hx hb dX12_checkNeed_163 ?_
                  refine lv_topi (fun z88 ez88 => ?_)
                  have hz88 : z88.toInt = z87.toInt + p0.toInt := i_add ez88 rfl rfl (by (first | exact om_6c84dfc0d33f rg_p0.1 rg_p0.2 r1.1 r1.2 hz87 | omega))
                  have g22 : (V 22 (Int32.toNatClampNeg z88)).toInt = ((gs.1 (61 + 8 * gc) : Nat) : Int) := by rw [show Int32.toNatClampNeg z88 = 24 * bq + gc from by have h9 := i_clamp (x := z88) rfl (by (first | exact om_11587583f9f8 rg_p0.1 r1.1 hz87 hz88 | omega)); omega]; exact (com gc gcl).1.2.1
                  refine va_iald (D := D) (i := z88) hx hb hK hP 15 14 rfl rfl (i_in (a := z88.toInt) rfl (by (first | exact om_cf341bf82a51 rg_p0.1 rg_p0.2 r1.1 r1.2 hz87 hz88 | omega))) dX12_checkNeed_164 ?_
                  refine g_top (v := (V 22 (Int32.toNatClampNeg z88))) ((up2_o hV21 (by decide)).trans (ajV12 22 (Int32.toNatClampNeg z88) rfl)) ?_
                  refine gE_int (g_runS (As := [.int (V 22 (Int32.toNatClampNeg z88))]) (rest := [.int z83]) (wc := []) (tc := []) hx hb hml hown hg gw_self hP hD hK hS hA hnw hgk [] [] (by decide) rfl rfl (s_longness6 l D ks H.size (V 22 (Int32.toNatClampNeg z88)) ) w2180 w2181 w172 w2182 hdS_yX12_longness ⟨Nat.le_of_ble_eq_true rfl, Nat.le_of_ble_eq_true rfl⟩ rfl hl.1 rfl (Nat.le_of_ble_eq_true rfl) dX12_checkNeed_165 ⟨Nat.le_of_ble_eq_true rfl, Nat.le_of_ble_eq_true rfl⟩) hP hD hK hS hA (fun z89 u90 H locs w91 hP hD hK hS => ?_)
                  obtain ⟨rgz89, t92⟩ := w91
                  have rgz89 : 1 ≤ z89.toInt ∧ z89.toInt ≤ 3 := rgz89
                  have t92 : (((V 22 (Int32.toNatClampNeg z88))).toInt = 0 ∧ z89.toInt = 3) ∨ (((V 22 (Int32.toNatClampNeg z88))).toInt = 1 ∧ z89.toInt = 2) ∨ (((V 22 (Int32.toNatClampNeg z88))).toInt ≠ 0 ∧ ((V 22 (Int32.toNatClampNeg z88))).toInt ≠ 1 ∧ z89.toInt = 1) := t92
                  refine lv_icmp_ge (tgt := 175) hx hb dX12_checkNeed_168 (by decide) (fun c93 => ?_) (fun c93 => ?_)
                  · skip
                    have f94 : z89.toInt ≤ z83.toInt := b_le rfl rfl c93
                    refine lv_iconst (v := 0) hx hb dX12_checkNeed_175 (by decide) ?_
                    refine lv_istore (lv' := [(7, .int 0), (9, .int (V 22 (Int32.toNatClampNeg z71))), (8, .int y22), (6, .int 0), (5, .int 0), (4, .int z8), (3, .int z7), (0, .ref (ad 0)), (1, .int p0), (2, .int p1)]) hx hb dX12_checkNeed_176 hl (by decide) rfl (fun ls hl => ?_)
                    obtain ⟨z95, ez95⟩ : ∃ y : Int32, y = y22 + 1 := ⟨_, rfl⟩
                    have hz95 : z95.toInt = y22.toInt + 1 := i_add ez95 rfl (by decide) (by (first | exact om_011f32c1c680 f18 klp24_0.1 f45 | omega))
                    refine lv_iinc (v := z95) (lv' := [(8, .int z95), (7, .int 0), (9, .int (V 22 (Int32.toNatClampNeg z71))), (6, .int 0), (5, .int 0), (4, .int z8), (3, .int z7), (0, .ref (ad 0)), (1, .int p0), (2, .int p1)]) hx hb dX12_checkNeed_178 hl (k := 2) rfl (by rw [ez95]; rfl) (by decide) rfl (fun ls hl => ?_)
                    refine lv_goto (tgt := 97) hx hb dX12_checkNeed_181 (by decide) ?_
                    have r96 : Int32.toInt 0 = 0 := by decide
                    exact ihlp24 z95 0 H locs ls (by (first | exact om_62cd0ceff94e f18 klp24_0.1 f45 hz95 | omega)) (by decide) (show z95.toInt ≤ z8.toInt from by (first | exact om_7fe9249fc074 f45 hz95 | omega)) (Or.inr ⟨rfl, fun i hi h9 => by rcases Decidable.em (i = (Int32.toNatClampNeg y22)) with h8 | h8; (subst h8; exact shP_n (by omega)); exact (xlp24_1.resolve_left (fun h7 => by have h6 := h7.1; omega)).2 i hi (by omega)⟩) (by (first | exact om_9e7d2b874257 hn hz95 | omega)) hP hD hS (lv_sub hl [0, 1, 3, 4, 5, 6, 7, 8, 9] rfl)
                  · skip
                    have f97 : z83.toInt < z89.toInt := b_nle rfl rfl c93
                    refine lv_iconst (v := 1) hx hb dX12_checkNeed_171 (by decide) ?_
                    refine lv_goto (tgt := 176) hx hb dX12_checkNeed_172 (by decide) ?_
                    refine lv_istore (lv' := [(7, .int 1), (9, .int (V 22 (Int32.toNatClampNeg z71))), (8, .int y22), (6, .int 0), (5, .int 0), (4, .int z8), (3, .int z7), (0, .ref (ad 0)), (1, .int p0), (2, .int p1)]) hx hb dX12_checkNeed_176 hl (by decide) rfl (fun ls hl => ?_)
                    obtain ⟨z98, ez98⟩ : ∃ y : Int32, y = y22 + 1 := ⟨_, rfl⟩
                    have hz98 : z98.toInt = y22.toInt + 1 := i_add ez98 rfl (by decide) (by (first | exact om_011f32c1c680 f18 klp24_0.1 f45 | omega))
                    refine lv_iinc (v := z98) (lv' := [(8, .int z98), (7, .int 1), (9, .int (V 22 (Int32.toNatClampNeg z71))), (6, .int 0), (5, .int 0), (4, .int z8), (3, .int z7), (0, .ref (ad 0)), (1, .int p0), (2, .int p1)]) hx hb dX12_checkNeed_178 hl (k := 2) rfl (by rw [ez98]; rfl) (by decide) rfl (fun ls hl => ?_)
                    refine lv_goto (tgt := 97) hx hb dX12_checkNeed_181 (by decide) ?_
                    have r99 : Int32.toInt 1 = 1 := by decide
                    have r100 : Int32.toInt 0 = 0 := by decide
                    exact ihlp24 z98 1 H locs ls (by (first | exact om_62cd0ceff94e f18 klp24_0.1 f45 hz98 | omega)) (by decide) (show z98.toInt ≤ z8.toInt from by (first | exact om_7fe9249fc074 f45 hz98 | omega)) (Or.inl ⟨rfl, (fun h9 => absurd (n29.mpr h9) (by omega)), _, List.getElem_mem hK9, shP_y (by omega) (by omega)⟩) (by (first | exact om_9e7d2b874257 hn hz98 | omega)) hP hD hS (lv_sub hl [0, 1, 3, 4, 5, 6, 7, 8, 9] rfl)
      have r101 : Int32.toInt 0 = 0 := by decide
      exact lp24 ((z8.toInt - (Int32.toInt 0) + 1 : Int).toNat) 0 0 H locs ls (by decide) (by decide) (show (Int32.toInt 0) ≤ z8.toInt from by (first | exact om_54f86daa8293 rgz8.1 f16 r101 | omega)) (Or.inr ⟨rfl, fun i _ h9 => absurd h9 (by rw [show (Int32.toInt 0).toNat = 0 from by decide]; exact Nat.not_lt_zero _)⟩) (by (first | exact om_7441a7786481 | omega)) hP hD hS (lv_sub hl [0, 1, 2, 3, 4, 5, 6, 7, 8] rfl)
    · skip
      have f102 : 1 < z8.toInt := b_nle rfl (by decide) c17
      refine lv_aload_n hx hb dX12_checkNeed_49 rfl (lv_at hl 3 rfl) ?_
      refine va_get (D := D) (ci := 12) (v := .ref (ad 30)) (C := RX12) (T := TX12) (N := 100) hx hb hg inX12 hown hK hP 0 rfl rfl 30 (by decide) (hg _ w1736) (fun _ h9 => h9) rfl dX12_checkNeed_50 ?_
      refine lv_iload_n hx hb dX12_checkNeed_53 rfl (lv_at hl 2 rfl) ?_
      refine va_zald (D := D) (i := z7) hx hb hK hP 23 22 rfl rfl (i_in (a := z7.toInt) rfl (by (first | exact om_fbf295219f60 rg_p0.1 rg_p0.2 rg_p1.1 rg_p1.2 r1.1 r1.2 hz4 hz5 hz6 hz7 | omega))) dX12_checkNeed_54 ?_
      refine g_top (v := (V 30 (Int32.toNatClampNeg z7))) (ajV12 30 (Int32.toNatClampNeg z7) rfl) ?_
      have r103 : 0 ≤ ((V 30 (Int32.toNatClampNeg z7))).toInt ∧ ((V 30 (Int32.toNatClampNeg z7))).toInt ≤ 1 := hMV 30 (Int32.toNatClampNeg z7)
      refine lv_if_ne (tgt := 62) hx hb dX12_checkNeed_55 (by decide) (fun c104 => ?_) (fun c104 => ?_)
      · skip
        have f105 : ((V 30 (Int32.toNatClampNeg z7))).toInt ≠ 0 := b_neq rfl (by decide) c104
        refine lv_iconst (v := 0) hx hb dX12_checkNeed_62 (by decide) ?_
        refine lv_istore (lv' := [(6, .int 0), (5, .int 0), (4, .int z8), (3, .int z7), (0, .ref (ad 0)), (1, .int p0), (2, .int p1)]) hx hb dX12_checkNeed_63 hl (by decide) rfl (fun ls hl => ?_)
        refine lv_aload_n hx hb dX12_checkNeed_65 rfl (lv_at hl 4 rfl) ?_
        refine va_get (D := D) (ci := 12) (v := .ref (ad 86)) (C := RX12) (T := TX12) (N := 100) hx hb hg inX12 hown hK hP 0 rfl rfl 86 (by decide) (hg _ w1792) (fun _ h9 => h9) rfl dX12_checkNeed_66 ?_
        refine lv_bipush (v := 8) hx hb dX12_checkNeed_69 (by decide) ?_
        refine lv_iload_n hx hb dX12_checkNeed_71 rfl (lv_at hl 5 rfl) ?_
        refine lv_imul hx hb dX12_checkNeed_72 ?_
        refine lv_topi (fun z106 ez106 => ?_)
        have hz106 : z106.toInt = 8 * p0.toInt := i_mul ez106 (by decide) rfl (by (first | exact om_9e4b7225c539 rg_p0.1 rg_p0.2 | omega))
        refine lv_iload_n hx hb dX12_checkNeed_73 rfl (lv_at hl 6 rfl) ?_
        refine lv_iadd hx hb dX12_checkNeed_74 ?_
        refine lv_topi (fun z107 ez107 => ?_)
        have hz107 : z107.toInt = z106.toInt + p1.toInt := i_add ez107 rfl rfl (by (first | exact om_9f730d8f8954 rg_p0.1 rg_p0.2 rg_p1.1 rg_p1.2 hz106 | omega))
        refine lv_iload hx hb dX12_checkNeed_75 (lv_at hl 1 rfl) ?_
        refine lv_if_ne (tgt := 85) hx hb dX12_checkNeed_77 (by decide) (fun q => absurd rfl q) (fun _ => ?_)
        refine lv_iload hx hb dX12_checkNeed_80 (lv_at hl 0 rfl) ?_
        refine lv_if_eq (tgt := 89) hx hb dX12_checkNeed_82 (by decide) (fun _ => ?_) (fun q => absurd (by decide) q)
        refine lv_iconst (v := 0) hx hb dX12_checkNeed_89 (by decide) ?_
        refine va_zast (D := D) (i := z107) (x := 0) hx hb hK hP hD hS 62 61 rfl rfl (i_in (a := z107.toInt) rfl (by (first | exact om_acd96330a334 rg_p0.1 rg_p0.2 rg_p1.1 rg_p1.2 hz106 hz107 | omega))) dX12_checkNeed_90 (fun H locs hP hD hS => ?_)
        obtain ⟨V108, hV108⟩ : ∃ z, z = up2 V12 86 (Int32.toNatClampNeg z107) (vp_nar .boolean 0) := ⟨_, rfl⟩
        have hP : va_P D vwCl (mw ad kk ks.1 V108 L) H := by rw [hV108]; exact hP
        have hD : va_D A (mw ad kk ks.1 V108 L) := by rw [hV108]; exact hD
        have hMV108 : rgd bM V108 := hMV12.put hV108 (nar_b _)
        have agV108 : agr [(0, 81)] [80, 82, 83, 84, 86] V V108 := agV12.up hV108 rfl
        have kw9 : Int32.toNatClampNeg z107 = 8 * gc + gj := by have h9 := i_clamp (x := z107) rfl (by (first | exact om_f770854b4059 rg_p0.1 rg_p1.1 hz106 hz107 | omega)); (first | exact om_71ad80e3b9e8 pk pj hz106 hz107 h9 | omega)
        refine lv_iconst (v := 0) hx hb dX12_checkNeed_91 (by decide) ?_
        refine lv_istore (lv' := [(7, .int 0), (6, .int 0), (5, .int 0), (4, .int z8), (3, .int z7), (0, .ref (ad 0)), (1, .int p0), (2, .int p1)]) hx hb dX12_checkNeed_92 hl (by decide) rfl (fun ls hl => ?_)
        refine lv_iconst (v := 0) hx hb dX12_checkNeed_94 (by decide) ?_
        refine lv_istore (lv' := [(8, .int 0), (7, .int 0), (6, .int 0), (5, .int 0), (4, .int z8), (3, .int z7), (0, .ref (ad 0)), (1, .int p0), (2, .int p1)]) hx hb dX12_checkNeed_95 hl (by decide) rfl (fun ls hl => ?_)
        have lp111 : ∀ (fulp111 : Nat) (y109 : Int32) (y110 : Int32) (H : Heap) (locs : List Loc) (ls : Array Slot), 0 ≤ y109.toInt ∧ y109.toInt ≤ 24 → 0 ≤ y110.toInt ∧ y110.toInt ≤ 1 → y109.toInt ≤ z8.toInt → ((y110.toInt = 1 ∧ (gs.1 (301 + 32 * gc + 4 * gj)) ≠ 1 ∧ ∃ g, g ∈ (clF gs.1 gv (gs.2.1 2).length gc gj) ∧ shP gs.1 gc g = true) ∨ (y110.toInt = 0 ∧ ∀ i (h : i < (clF gs.1 gv (gs.2.1 2).length gc gj).length), i < y109.toInt.toNat → shP gs.1 gc (clF gs.1 gv (gs.2.1 2).length gc gj)[i] = false)) → z8.toInt - y109.toInt < (fulp111 : Int) → va_P D vwCl (mw ad kk ks.1 V108 L) H → va_D A (mw ad kk ks.1 V108 L) → va_S A s.heap H locs → lv_has ls 10 [(8, .int y109), (7, .int y110), (6, .int 0), (5, .int 0), (4, .int z8), (3, .int z7), (0, .ref (ad 0)), (1, .int p0), (2, .int p1)] → W p l e r_s_checkNeed6 s m ([.ref (ad 0), .int p0, .int p1] : List Value).toArray below meth c H locs 0 0 (MQ below (q_s_checkNeed6 D ks ad kk V L p0 p1 bq gs gc gj gv gF A) ([.ref (ad 0), .int p0, .int p1] : List Value).toArray s 0 0 A) (F0 m 97 ls []) := by
          intro fulp111
          induction fulp111 with
          | zero =>
            intro y109 y110 H locs ls klp111_0 klp111_1 xlp111_0 xlp111_1 hn  hP hD hS hl
            exfalso; (first | exact om_4634b1278845 xlp111_0 hn | omega)
          | succ fulp111 ihlp111 =>
            intro y109 y110 H locs ls klp111_0 klp111_1 xlp111_0 xlp111_1 hn  hP hD hS hl
            refine lv_iload hx hb dX12_checkNeed_97 (lv_at hl 0 rfl) ?_
            refine lv_iload hx hb dX12_checkNeed_99 (lv_at hl 4 rfl) ?_
            refine lv_icmp_ge (tgt := 184) hx hb dX12_checkNeed_101 (by decide) (fun c112 => ?_) (fun c112 => ?_)
            · skip
              have f113 : z8.toInt ≤ y109.toInt := b_le rfl rfl c112
              refine lv_iload hx hb dX12_checkNeed_184 (lv_at hl 3 rfl) ?_
              refine lv_if_ne (tgt := 199) hx hb dX12_checkNeed_186 (by decide) (fun q => absurd rfl q) (fun _ => ?_)
              refine lv_iload hx hb dX12_checkNeed_189 (lv_at hl 2 rfl) ?_
              refine lv_if_ne (tgt := 199) hx hb dX12_checkNeed_191 (by decide) (fun q => absurd rfl q) (fun _ => ?_)
              refine lv_iload hx hb dX12_checkNeed_194 (lv_at hl 1 rfl) ?_
              refine lv_if_eq (tgt := 224) hx hb dX12_checkNeed_196 (by decide) (fun c114 => ?_) (fun c114 => ?_)
              · skip
                have f115 : y110.toInt = 0 := b_eq rfl (by decide) c114
                have pq116 : (V108 0 81).toInt = ((V 0 81)).toInt := congrArg Int32.toInt ((up2_o hV108 (by decide)).trans (ajV12 0 81 rfl))
                have ft117 : ftP gs.1 gv (gs.2.1 2).length gc gj = 0 := ft_0 (show (gs.1 (301 + 32 * gc + 4 * gj)) = 2 ∨ (clF gs.1 gv (gs.2.1 2).length gc gj).length = 1 from by rcases Decidable.em ((gs.1 (301 + 32 * gc + 4 * gj)) = 2) with h9 | h9; exact Or.inl h9; (have h8 := mt n30.mp h9; right; omega)) (by rcases Decidable.em ((gs.1 (301 + 32 * gc + 4 * gj)) = 1) with h9 | h9; exact Or.inl h9; (right; intro g9 m9; obtain ⟨i9, hi9, e9⟩ := List.mem_iff_getElem.mp m9; rw [← e9]; have h8 := mt n29.mp h9; exact (xlp111_1.resolve_left (fun h7 => by have h6 := h7.1; omega)).2 i9 hi9 (by omega)))
                have wg118 : WRG (V108 86 (8 * gc + gj)) gs.1 gv (gs.2.1 2).length gc gj := Or.inr ⟨(by rw [← kw9, up2_s hV108]; decide), by omega⟩
                exact W.vret hx hb hr (fun t ht hW => ⟨⟨(V108, L), rfl, ⟨hMV108, agV108, rfl, (show (V108 0 81).toInt ≤ (V 0 81).toInt + 1 from by (first | exact om_c3b61c06432f pq116 | omega)), (show (V 0 81).toInt ≤ (V108 0 81).toInt from by (first | exact om_abdc88b0c8fc pq116 | omega)), (by rw [ndO_0 (by omega)]; exact FLm.fo flq (congrFun (by rw [(up2_fo hV108 (by decide) : V108 0 = V12 0), (funext (fun q => ajV12 0 q rfl) : V12 0 = V 0)] : V108 0 = V 0) 81) (by rw [(up2_fo hV108 (by decide) : V108 82 = V12 82), (funext (fun q => ajV12 82 q rfl) : V12 82 = V 82)] : V108 82 = V 82) (by rw [(up2_fo hV108 (by decide) : V108 83 = V12 83), (funext (fun q => ajV12 83 q rfl) : V12 83 = V 83)] : V108 83 = V 83) (by rw [(up2_fo hV108 (by decide) : V108 84 = V12 84), (funext (fun q => ajV12 84 q rfl) : V12 84 = V 84)] : V108 84 = V 84) (by rw [(up2_fo hV108 (by decide) : V108 85 = V12 85), (funext (fun q => ajV12 85 q rfl) : V12 85 = V 85)] : V108 85 = V 85)), wg118, (fun q9 h9 => (congrFun (rfl : V108 86 = V108 86) q9).trans ((up2_k hV108 (by rw [kw9]; exact h9)).trans (congrFun (by rw [(funext (fun q => ajV12 86 q rfl) : V12 86 = V 86)] : V12 86 = V 86) q9)))⟩, by rw [ht]; exact hP, va_K.moved hW.alike hK, hD⟩, hS.F ht⟩) hS.2.2 dX12_checkNeed_224
              · skip
                have f119 : y110.toInt ≠ 0 := b_neq rfl (by decide) c114
                have ft120 : ftP gs.1 gv (gs.2.1 2).length gc gj = 4 := by obtain ⟨k9, g9, a9, b9⟩ := (xlp111_1.resolve_right (fun h7 => by have h6 := h7.1; omega)).2; exact ft_4 (show (gs.1 (301 + 32 * gc + 4 * gj)) = 2 ∨ (clF gs.1 gv (gs.2.1 2).length gc gj).length = 1 from by rcases Decidable.em ((gs.1 (301 + 32 * gc + 4 * gj)) = 2) with h9 | h9; exact Or.inl h9; (have h8 := mt n30.mp h9; right; omega)) k9 a9 b9
                refine lv_aload_n hx hb dX12_checkNeed_199 rfl (lv_at hl 6 rfl) ?_
                refine lv_iload hx hb dX12_checkNeed_200 (lv_at hl 3 rfl) ?_
                refine lv_if_eq (tgt := 209) hx hb dX12_checkNeed_202 (by decide) (fun _ => ?_) (fun q => absurd (by decide) q)
                refine lv_iload hx hb dX12_checkNeed_209 (lv_at hl 2 rfl) ?_
                refine lv_if_eq (tgt := 218) hx hb dX12_checkNeed_211 (by decide) (fun _ => ?_) (fun q => absurd (by decide) q)
                refine lv_iconst (v := 4) hx hb dX12_checkNeed_218 (by decide) ?_
                refine lv_iload_n hx hb dX12_checkNeed_219 rfl (lv_at hl 7 rfl) ?_
                refine lv_iload_n hx hb dX12_checkNeed_220 rfl (lv_at hl 8 rfl) ?_
                have r121 : Int32.toInt 4 = 4 := by decide
                have pq122 : (V108 0 81).toInt = ((V 0 81)).toInt := congrArg Int32.toInt ((up2_o hV108 (by decide)).trans (ajV12 0 81 rfl))
                refine gA_void (gA_runV (As := [.int 4, .int p0, .int p1]) (rest := []) (ci := 12) (q0 := 0) hx hb hml hown hg hP hD hK hS hA hnw hgk (s_addFault6 l D ks H.size ad kk V108 L 4 p0 p1 (gF) (ftP gs.1 gv (gs.2.1 2).length gc gj) (gc) (gj) (fun _ => 0) hMV108 (by (first | exact om_b6da0344f992 rg_p1.1 rg_p1.2 | omega)) (show (V108 0 81).toInt ≤ 999999 from by (first | exact om_92a90bb16346 y2 pq122 | omega)) (show (Int32.toInt 4) = (((ftP gs.1 gv (gs.2.1 2).length gc gj) : Nat) : Int) from by (first | exact om_259ff51de1b6 ft120 r121 | omega)) (show p0.toInt = (((gc) : Nat) : Int) from by (first | exact om_08e0c9701055 pk | omega)) (show p1.toInt = (((gj) : Nat) : Int) from by (first | exact om_08e0c9701055 pj | omega)) (FLm.fo flq (congrFun (by rw [(up2_fo hV108 (by decide) : V108 0 = V12 0), (funext (fun q => ajV12 0 q rfl) : V12 0 = V 0)] : V108 0 = V 0) 81) (by rw [(up2_fo hV108 (by decide) : V108 82 = V12 82), (funext (fun q => ajV12 82 q rfl) : V12 82 = V 82)] : V108 82 = V 82) (by rw [(up2_fo hV108 (by decide) : V108 83 = V12 83), (funext (fun q => ajV12 83 q rfl) : V12 83 = V 83)] : V108 83 = V 83) (by rw [(up2_fo hV108 (by decide) : V108 84 = V12 84), (funext (fun q => ajV12 84 q rfl) : V12 84 = V 84)] : V108 84 = V 84) (by rw [(up2_fo hV108 (by decide) : V108 85 = V12 85), (funext (fun q => ajV12 85 q rfl) : V12 85 = V 85)] : V108 85 = V 85)) (fun h3 => absurd h3 ft_ne3) (fun h3 => absurd h3 ft_ne3)) w2183 w2185 w121 w172 w2186 rfl rfl hdV_yX12_addFault ⟨Nat.le_of_ble_eq_true rfl, Nat.le_of_ble_eq_true rfl⟩ rfl hl.1 rfl (Nat.le_of_ble_eq_true rfl) dX12_checkNeed_221 ⟨Nat.le_of_ble_eq_true rfl, Nat.le_of_ble_eq_true rfl⟩) hP hD hK hS hA (fun u124 H locs w125 hP hD hK hS => ?_)
                obtain ⟨V128, L129⟩ := u124
                obtain ⟨hMV128, ajV128, axL129, t126, t127⟩ := w125
                have axL129 : L = L129 := Eq.symm axL129
                subst axL129
                have hP : va_P D vwCl (mw ad kk ks.1 V128 L) H := hP
                have hD : va_D A (mw ad kk ks.1 V128 L) := hD
                have hMV128 : rgd bM V128 := hMV128
                have ajV128 : agr [(0, 81)] [82, 83, 84] V108 V128 := ajV128
                have agV128 : agr [(0, 81)] [80, 82, 83, 84, 86] V V128 := agV108.tr ajV128 (by decide) (by decide)
                have t126 : (V128 0 81).toInt = (V108 0 81).toInt + 1 := t126
                have t127 : FLm V128 (adF (gF) (ftP gs.1 gv (gs.2.1 2).length gc gj) (gc) (gj) (fun _ => 0)) := t127
                have r130 : 0 ≤ ((V128 0 81)).toInt ∧ ((V128 0 81)).toInt ≤ 1000000 := hMV128 0 81
                have wg131 : WRG (V128 86 (8 * gc + gj)) gs.1 gv (gs.2.1 2).length gc gj := Or.inr ⟨(by rw [← kw9, (by rw [(funext (fun q => ajV128 86 q rfl) : V128 86 = V108 86)] : V128 86 = V108 86), up2_s hV108]; decide), by omega⟩
                exact W.vret hx hb hr (fun t ht hW => ⟨⟨(V128, L), rfl, ⟨hMV128, agV128, rfl, (show (V128 0 81).toInt ≤ (V 0 81).toInt + 1 from by (first | exact om_4073e2f93091 pq122 t126 | omega)), (show (V 0 81).toInt ≤ (V128 0 81).toInt from by (first | exact om_7fa199aab32e pq122 t126 | omega)), (by rw [ndO_1 (by omega)]; exact t127), wg131, (fun q9 h9 => (congrFun (by rw [(funext (fun q => ajV128 86 q rfl) : V128 86 = V108 86)] : V128 86 = V108 86) q9).trans ((up2_k hV108 (by rw [kw9]; exact h9)).trans (congrFun (by rw [(funext (fun q => ajV12 86 q rfl) : V12 86 = V 86)] : V12 86 = V 86) q9)))⟩, by rw [ht]; exact hP, va_K.moved hW.alike hK, hD⟩, hS.F ht⟩) hS.2.2 dX12_checkNeed_224
            · skip
              have f132 : y109.toInt < z8.toInt := b_nle rfl rfl c112
              refine lv_aload_n hx hb dX12_checkNeed_104 rfl (lv_at hl 6 rfl) ?_
              refine va_get (D := D) (ci := 12) (v := .ref (ad 29)) (C := RX12) (T := TX12) (N := 100) hx hb hg inX12 hown hK hP 0 rfl rfl 29 (by decide) (hg _ w1735) (fun _ h9 => h9) rfl dX12_checkNeed_105 ?_
              refine lv_iload_n hx hb dX12_checkNeed_108 rfl (lv_at hl 5 rfl) ?_
              refine va_zald (D := D) (i := z7) hx hb hK hP 22 21 rfl rfl (i_in (a := z7.toInt) rfl (by (first | exact om_fbf295219f60 rg_p0.1 rg_p0.2 rg_p1.1 rg_p1.2 r1.1 r1.2 hz4 hz5 hz6 hz7 | omega))) dX12_checkNeed_109 ?_
              refine g_top (v := (V 29 (Int32.toNatClampNeg z7))) ((up2_o hV108 (by decide)).trans (ajV12 29 (Int32.toNatClampNeg z7) rfl)) ?_
              have r133 : 0 ≤ ((V 29 (Int32.toNatClampNeg z7))).toInt ∧ ((V 29 (Int32.toNatClampNeg z7))).toInt ≤ 1 := hMV 29 (Int32.toNatClampNeg z7)
              refine lv_if_ne (tgt := 184) hx hb dX12_checkNeed_110 (by decide) (fun c134 => ?_) (fun c134 => ?_)
              · skip
                have f135 : ((V 29 (Int32.toNatClampNeg z7))).toInt ≠ 0 := b_neq rfl (by decide) c134
                refine lv_iload hx hb dX12_checkNeed_184 (lv_at hl 3 rfl) ?_
                refine lv_if_ne (tgt := 199) hx hb dX12_checkNeed_186 (by decide) (fun q => absurd rfl q) (fun _ => ?_)
                refine lv_iload hx hb dX12_checkNeed_189 (lv_at hl 2 rfl) ?_
                refine lv_if_ne (tgt := 199) hx hb dX12_checkNeed_191 (by decide) (fun q => absurd rfl q) (fun _ => ?_)
                refine lv_iload hx hb dX12_checkNeed_194 (lv_at hl 1 rfl) ?_
                refine lv_if_eq (tgt := 224) hx hb dX12_checkNeed_196 (by decide) (fun c136 => ?_) (fun c136 => ?_)
                · skip
                  have f137 : y110.toInt = 0 := b_eq rfl (by decide) c136
                  have pq138 : (V108 0 81).toInt = ((V 0 81)).toInt := congrArg Int32.toInt ((up2_o hV108 (by decide)).trans (ajV12 0 81 rfl))
                  have ft139 : ftP gs.1 gv (gs.2.1 2).length gc gj = 0 := ft_0 (show (gs.1 (301 + 32 * gc + 4 * gj)) = 2 ∨ (clF gs.1 gv (gs.2.1 2).length gc gj).length = 1 from by rcases Decidable.em ((gs.1 (301 + 32 * gc + 4 * gj)) = 2) with h9 | h9; exact Or.inl h9; (have h8 := mt n30.mp h9; right; omega)) (by rcases Decidable.em ((gs.1 (301 + 32 * gc + 4 * gj)) = 1) with h9 | h9; exact Or.inl h9; (right; intro g9 m9; obtain ⟨i9, hi9, e9⟩ := List.mem_iff_getElem.mp m9; rw [← e9]; have h8 := mt n29.mp h9; exact (xlp111_1.resolve_left (fun h7 => by have h6 := h7.1; omega)).2 i9 hi9 (by omega)))
                  have wg140 : WRG (V108 86 (8 * gc + gj)) gs.1 gv (gs.2.1 2).length gc gj := Or.inr ⟨(by rw [← kw9, up2_s hV108]; decide), by omega⟩
                  exact W.vret hx hb hr (fun t ht hW => ⟨⟨(V108, L), rfl, ⟨hMV108, agV108, rfl, (show (V108 0 81).toInt ≤ (V 0 81).toInt + 1 from by (first | exact om_c3b61c06432f pq138 | omega)), (show (V 0 81).toInt ≤ (V108 0 81).toInt from by (first | exact om_abdc88b0c8fc pq138 | omega)), (by rw [ndO_0 (by omega)]; exact FLm.fo flq (congrFun (by rw [(up2_fo hV108 (by decide) : V108 0 = V12 0), (funext (fun q => ajV12 0 q rfl) : V12 0 = V 0)] : V108 0 = V 0) 81) (by rw [(up2_fo hV108 (by decide) : V108 82 = V12 82), (funext (fun q => ajV12 82 q rfl) : V12 82 = V 82)] : V108 82 = V 82) (by rw [(up2_fo hV108 (by decide) : V108 83 = V12 83), (funext (fun q => ajV12 83 q rfl) : V12 83 = V 83)] : V108 83 = V 83) (by rw [(up2_fo hV108 (by decide) : V108 84 = V12 84), (funext (fun q => ajV12 84 q rfl) : V12 84 = V 84)] : V108 84 = V 84) (by rw [(up2_fo hV108 (by decide) : V108 85 = V12 85), (funext (fun q => ajV12 85 q rfl) : V12 85 = V 85)] : V108 85 = V 85)), wg140, (fun q9 h9 => (congrFun (rfl : V108 86 = V108 86) q9).trans ((up2_k hV108 (by rw [kw9]; exact h9)).trans (congrFun (by rw [(funext (fun q => ajV12 86 q rfl) : V12 86 = V 86)] : V12 86 = V 86) q9)))⟩, by rw [ht]; exact hP, va_K.moved hW.alike hK, hD⟩, hS.F ht⟩) hS.2.2 dX12_checkNeed_224
                · skip
                  have f141 : y110.toInt ≠ 0 := b_neq rfl (by decide) c136
                  have ft142 : ftP gs.1 gv (gs.2.1 2).length gc gj = 4 := by obtain ⟨k9, g9, a9, b9⟩ := (xlp111_1.resolve_right (fun h7 => by have h6 := h7.1; omega)).2; exact ft_4 (show (gs.1 (301 + 32 * gc + 4 * gj)) = 2 ∨ (clF gs.1 gv (gs.2.1 2).length gc gj).length = 1 from by rcases Decidable.em ((gs.1 (301 + 32 * gc + 4 * gj)) = 2) with h9 | h9; exact Or.inl h9; (have h8 := mt n30.mp h9; right; omega)) k9 a9 b9
                  refine lv_aload_n hx hb dX12_checkNeed_199 rfl (lv_at hl 6 rfl) ?_
                  refine lv_iload hx hb dX12_checkNeed_200 (lv_at hl 3 rfl) ?_
                  refine lv_if_eq (tgt := 209) hx hb dX12_checkNeed_202 (by decide) (fun _ => ?_) (fun q => absurd (by decide) q)
                  refine lv_iload hx hb dX12_checkNeed_209 (lv_at hl 2 rfl) ?_
                  refine lv_if_eq (tgt := 218) hx hb dX12_checkNeed_211 (by decide) (fun _ => ?_) (fun q => absurd (by decide) q)
                  refine lv_iconst (v := 4) hx hb dX12_checkNeed_218 (by decide) ?_
                  refine lv_iload_n hx hb dX12_checkNeed_219 rfl (lv_at hl 7 rfl) ?_
                  refine lv_iload_n hx hb dX12_checkNeed_220 rfl (lv_at hl 8 rfl) ?_
                  have r143 : Int32.toInt 4 = 4 := by decide
                  have pq144 : (V108 0 81).toInt = ((V 0 81)).toInt := congrArg Int32.toInt ((up2_o hV108 (by decide)).trans (ajV12 0 81 rfl))
                  refine gA_void (gA_runV (As := [.int 4, .int p0, .int p1]) (rest := []) (ci := 12) (q0 := 0) hx hb hml hown hg hP hD hK hS hA hnw hgk (s_addFault6 l D ks H.size ad kk V108 L 4 p0 p1 (gF) (ftP gs.1 gv (gs.2.1 2).length gc gj) (gc) (gj) (fun _ => 0) hMV108 (by (first | exact om_b6da0344f992 rg_p1.1 rg_p1.2 | omega)) (show (V108 0 81).toInt ≤ 999999 from by (first | exact om_92a90bb16346 y2 pq144 | omega)) (show (Int32.toInt 4) = (((ftP gs.1 gv (gs.2.1 2).length gc gj) : Nat) : Int) from by (first | exact om_259ff51de1b6 ft142 r143 | omega)) (show p0.toInt = (((gc) : Nat) : Int) from by (first | exact om_08e0c9701055 pk | omega)) (show p1.toInt = (((gj) : Nat) : Int) from by (first | exact om_08e0c9701055 pj | omega)) (FLm.fo flq (congrFun (by rw [(up2_fo hV108 (by decide) : V108 0 = V12 0), (funext (fun q => ajV12 0 q rfl) : V12 0 = V 0)] : V108 0 = V 0) 81) (by rw [(up2_fo hV108 (by decide) : V108 82 = V12 82), (funext (fun q => ajV12 82 q rfl) : V12 82 = V 82)] : V108 82 = V 82) (by rw [(up2_fo hV108 (by decide) : V108 83 = V12 83), (funext (fun q => ajV12 83 q rfl) : V12 83 = V 83)] : V108 83 = V 83) (by rw [(up2_fo hV108 (by decide) : V108 84 = V12 84), (funext (fun q => ajV12 84 q rfl) : V12 84 = V 84)] : V108 84 = V 84) (by rw [(up2_fo hV108 (by decide) : V108 85 = V12 85), (funext (fun q => ajV12 85 q rfl) : V12 85 = V 85)] : V108 85 = V 85)) (fun h3 => absurd h3 ft_ne3) (fun h3 => absurd h3 ft_ne3)) w2183 w2185 w121 w172 w2186 rfl rfl hdV_yX12_addFault ⟨Nat.le_of_ble_eq_true rfl, Nat.le_of_ble_eq_true rfl⟩ rfl hl.1 rfl (Nat.le_of_ble_eq_true rfl) dX12_checkNeed_221 ⟨Nat.le_of_ble_eq_true rfl, Nat.le_of_ble_eq_true rfl⟩) hP hD hK hS hA (fun u146 H locs w147 hP hD hK hS => ?_)
                  obtain ⟨V150, L151⟩ := u146
                  obtain ⟨hMV150, ajV150, axL151, t148, t149⟩ := w147
                  have axL151 : L = L151 := Eq.symm axL151
                  subst axL151
                  have hP : va_P D vwCl (mw ad kk ks.1 V150 L) H := hP
                  have hD : va_D A (mw ad kk ks.1 V150 L) := hD
                  have hMV150 : rgd bM V150 := hMV150
                  have ajV150 : agr [(0, 81)] [82, 83, 84] V108 V150 := ajV150
                  have agV150 : agr [(0, 81)] [80, 82, 83, 84, 86] V V150 := agV108.tr ajV150 (by decide) (by decide)
                  have t148 : (V150 0 81).toInt = (V108 0 81).toInt + 1 := t148
                  have t149 : FLm V150 (adF (gF) (ftP gs.1 gv (gs.2.1 2).length gc gj) (gc) (gj) (fun _ => 0)) := t149
                  have r152 : 0 ≤ ((V150 0 81)).toInt ∧ ((V150 0 81)).toInt ≤ 1000000 := hMV150 0 81
                  have wg153 : WRG (V150 86 (8 * gc + gj)) gs.1 gv (gs.2.1 2).length gc gj := Or.inr ⟨(by rw [← kw9, (by rw [(funext (fun q => ajV150 86 q rfl) : V150 86 = V108 86)] : V150 86 = V108 86), up2_s hV108]; decide), by omega⟩
                  exact W.vret hx hb hr (fun t ht hW => ⟨⟨(V150, L), rfl, ⟨hMV150, agV150, rfl, (show (V150 0 81).toInt ≤ (V 0 81).toInt + 1 from by (first | exact om_4073e2f93091 pq144 t148 | omega)), (show (V 0 81).toInt ≤ (V150 0 81).toInt from by (first | exact om_7fa199aab32e pq144 t148 | omega)), (by rw [ndO_1 (by omega)]; exact t149), wg153, (fun q9 h9 => (congrFun (by rw [(funext (fun q => ajV150 86 q rfl) : V150 86 = V108 86)] : V150 86 = V108 86) q9).trans ((up2_k hV108 (by rw [kw9]; exact h9)).trans (congrFun (by rw [(funext (fun q => ajV12 86 q rfl) : V12 86 = V 86)] : V12 86 = V 86) q9)))⟩, by rw [ht]; exact hP, va_K.moved hW.alike hK, hD⟩, hS.F ht⟩) hS.2.2 dX12_checkNeed_224
              · skip
                have f154 : ((V 29 (Int32.toNatClampNeg z7))).toInt = 0 := b_eq rfl (by decide) c134
                have ky9 := i_clamp (x := y109) rfl (by (first | exact om_eafa9039069c klp111_0.1 | omega))
                have hK9 : (Int32.toNatClampNeg y109) < (clF gs.1 gv (gs.2.1 2).length gc gj).length := by omega
                have cv9 : (V12 80 (Int32.toNatClampNeg y109)).toInt = (((clF gs.1 gv (gs.2.1 2).length gc gj)[(Int32.toNatClampNeg y109)] : Nat) : Int) := cv14.2 (Int32.toNatClampNeg y109) hK9
                have gl9 : (clF gs.1 gv (gs.2.1 2).length gc gj)[(Int32.toNatClampNeg y109)] < (gs.2.1 2).length := clF_lt (List.getElem_mem hK9)
                have pq155 : (V108 80 (Int32.toNatClampNeg y109)).toInt = ((V12 80 (Int32.toNatClampNeg y109))).toInt := congrArg Int32.toInt (up2_o hV108 (by decide))
                have r156 : 0 ≤ ((V12 80 (Int32.toNatClampNeg y109))).toInt ∧ ((V12 80 (Int32.toNatClampNeg y109))).toInt ≤ 23 := hMV12 80 (Int32.toNatClampNeg y109)
                refine lv_aload_n hx hb dX12_checkNeed_113 rfl (lv_at hl 6 rfl) ?_
                refine va_get (D := D) (ci := 12) (v := .ref (ad 22)) (C := RX12) (T := TX12) (N := 100) hx hb hg inX12 hown hK hP 0 rfl rfl 22 (by decide) (hg _ w1728) (fun _ h9 => h9) rfl dX12_checkNeed_114 ?_
                refine lv_bipush (v := 24) hx hb dX12_checkNeed_117 (by decide) ?_
                refine lv_aload_n hx hb dX12_checkNeed_119 rfl (lv_at hl 6 rfl) ?_
                refine va_get (D := D) (ci := 12) (v := .int (V108 0 11)) (C := RX12) (T := TX12) (N := 100) hx hb hg inX12 hown hK hP 0 rfl rfl 11 (by decide) (hg _ w1717) (fun _ h9 => h9) rfl dX12_checkNeed_120 ?_
                refine g_top (v := (V 0 11)) ((up2_o hV108 (by decide)).trans (ajV12 0 11 rfl)) ?_
                refine lv_imul hx hb dX12_checkNeed_123 ?_
                refine lv_topi (fun z157 ez157 => ?_)
                have hz157 : z157.toInt = 24 * ((V 0 11)).toInt := i_mul ez157 (by decide) rfl (by (first | exact om_3f8aba7b6ce1 r1.1 r1.2 | omega))
                refine lv_aload_n hx hb dX12_checkNeed_124 rfl (lv_at hl 6 rfl) ?_
                refine va_get (D := D) (ci := 12) (v := .ref (ad 80)) (C := RX12) (T := TX12) (N := 100) hx hb hg inX12 hown hK hP 0 rfl rfl 80 (by decide) (hg _ w1786) (fun _ h9 => h9) rfl dX12_checkNeed_125 ?_
                refine lv_iload hx hb dX12_checkNeed_128 (lv_at hl 0 rfl) ?_
                refine va_iald (D := D) (i := y109) hx hb hK hP 57 56 rfl rfl (i_in (a := y109.toInt) rfl (by (first | exact om_b50422aacf88 rgz8.2 klp111_0.1 f132 | omega))) dX12_checkNeed_130 ?_
                refine g_top (v := (V12 80 (Int32.toNatClampNeg y109))) (up2_o hV108 (by decide)) ?_
                refine lv_iadd hx hb dX12_checkNeed_131 ?_
                refine lv_topi (fun z158 ez158 => ?_)
                have hz158 : z158.toInt = z157.toInt + ((V12 80 (Int32.toNatClampNeg y109))).toInt := i_add ez158 rfl rfl (by (first | exact om_78286008d1d3 r1.1 r1.2 r156.1 r156.2 hz157 | omega))
                refine va_iald (D := D) (i := z158) hx hb hK hP 15 14 rfl rfl (i_in (a := z158.toInt) rfl (by (first | exact om_c17671f562fa r1.1 r1.2 r156.1 r156.2 hz157 hz158 | omega))) dX12_checkNeed_132 ?_
                refine g_top (v := (V 22 (Int32.toNatClampNeg z158))) ((up2_o hV108 (by decide)).trans (ajV12 22 (Int32.toNatClampNeg z158) rfl)) ?_
                refine lv_istore (lv' := [(9, .int (V 22 (Int32.toNatClampNeg z158))), (8, .int y109), (7, .int y110), (6, .int 0), (5, .int 0), (4, .int z8), (3, .int z7), (0, .ref (ad 0)), (1, .int p0), (2, .int p1)]) hx hb dX12_checkNeed_133 hl (by decide) rfl (fun ls hl => ?_)
                have h22 : (V 22 (Int32.toNatClampNeg z158)).toInt = ((gs.1 (61 + 8 * (clF gs.1 gv (gs.2.1 2).length gc gj)[(Int32.toNatClampNeg y109)]) : Nat) : Int) := by rw [show Int32.toNatClampNeg z158 = 24 * bq + (clF gs.1 gv (gs.2.1 2).length gc gj)[(Int32.toNatClampNeg y109)] from by have h9 := i_clamp (x := z158) rfl (by (first | exact om_19aed6992cbe r1.1 r156.1 hz157 hz158 | omega)); omega]; exact (com _ gl9).1.2.1
                have s3k := (t4 _ gl9).1
                refine lv_iload hx hb dX12_checkNeed_135 (lv_at hl 2 rfl) ?_
                refine lv_if_ne (tgt := 171) hx hb dX12_checkNeed_137 (by decide) (fun c159 => ?_) (fun c159 => ?_)
                · skip
                  have f160 : y110.toInt ≠ 0 := b_neq rfl (by decide) c159
                  refine lv_iconst (v := 1) hx hb dX12_checkNeed_171 (by decide) ?_
                  refine lv_goto (tgt := 176) hx hb dX12_checkNeed_172 (by decide) ?_
                  refine lv_istore (lv' := [(7, .int 1), (9, .int (V 22 (Int32.toNatClampNeg z158))), (8, .int y109), (6, .int 0), (5, .int 0), (4, .int z8), (3, .int z7), (0, .ref (ad 0)), (1, .int p0), (2, .int p1)]) hx hb dX12_checkNeed_176 hl (by decide) rfl (fun ls hl => ?_)
                  obtain ⟨z161, ez161⟩ : ∃ y : Int32, y = y109 + 1 := ⟨_, rfl⟩
                  have hz161 : z161.toInt = y109.toInt + 1 := i_add ez161 rfl (by decide) (by (first | exact om_ef5c713ba60b rgz8.2 klp111_0.1 f132 | omega))
                  refine lv_iinc (v := z161) (lv' := [(8, .int z161), (7, .int 1), (9, .int (V 22 (Int32.toNatClampNeg z158))), (6, .int 0), (5, .int 0), (4, .int z8), (3, .int z7), (0, .ref (ad 0)), (1, .int p0), (2, .int p1)]) hx hb dX12_checkNeed_178 hl (k := 2) rfl (by rw [ez161]; rfl) (by decide) rfl (fun ls hl => ?_)
                  refine lv_goto (tgt := 97) hx hb dX12_checkNeed_181 (by decide) ?_
                  have r162 : Int32.toInt 1 = 1 := by decide
                  have r163 : Int32.toInt 0 = 0 := by decide
                  exact ihlp111 z161 1 H locs ls (by (first | exact om_66f93e1729e3 rgz8.2 klp111_0.1 f132 hz161 | omega)) (by decide) (show z161.toInt ≤ z8.toInt from by (first | exact om_7fe9249fc074 f132 hz161 | omega)) (Or.inl ⟨rfl, (xlp111_1.resolve_right (fun h7 => by have h6 := h7.1; omega)).2⟩) (by (first | exact om_9e7d2b874257 hn hz161 | omega)) hP hD hS (lv_sub hl [0, 1, 3, 4, 5, 6, 7, 8, 9] rfl)
                · skip
                  have f164 : y110.toInt = 0 := b_eq rfl (by decide) c159
                  refine lv_iload hx hb dX12_checkNeed_140 (lv_at hl 0 rfl) ?_
                  refine lv_iconst (v := 3) hx hb dX12_checkNeed_142 (by decide) ?_
                  refine lv_icmp_eq (tgt := 175) hx hb dX12_checkNeed_143 (by decide) (fun c165 => ?_) (fun c165 => ?_)
                  · skip
                    have f166 : ((V 22 (Int32.toNatClampNeg z158))).toInt = 3 := b_eq rfl (by decide) c165
                    refine lv_iconst (v := 0) hx hb dX12_checkNeed_175 (by decide) ?_
                    refine lv_istore (lv' := [(7, .int 0), (9, .int (V 22 (Int32.toNatClampNeg z158))), (8, .int y109), (6, .int 0), (5, .int 0), (4, .int z8), (3, .int z7), (0, .ref (ad 0)), (1, .int p0), (2, .int p1)]) hx hb dX12_checkNeed_176 hl (by decide) rfl (fun ls hl => ?_)
                    obtain ⟨z167, ez167⟩ : ∃ y : Int32, y = y109 + 1 := ⟨_, rfl⟩
                    have hz167 : z167.toInt = y109.toInt + 1 := i_add ez167 rfl (by decide) (by (first | exact om_ef5c713ba60b rgz8.2 klp111_0.1 f132 | omega))
                    refine lv_iinc (v := z167) (lv' := [(8, .int z167), (7, .int 0), (9, .int (V 22 (Int32.toNatClampNeg z158))), (6, .int 0), (5, .int 0), (4, .int z8), (3, .int z7), (0, .ref (ad 0)), (1, .int p0), (2, .int p1)]) hx hb dX12_checkNeed_178 hl (k := 2) rfl (by rw [ez167]; rfl) (by decide) rfl (fun ls hl => ?_)
                    refine lv_goto (tgt := 97) hx hb dX12_checkNeed_181 (by decide) ?_
                    have r168 : Int32.toInt 0 = 0 := by decide
                    exact ihlp111 z167 0 H locs ls (by (first | exact om_66f93e1729e3 rgz8.2 klp111_0.1 f132 hz167 | omega)) (by decide) (show z167.toInt ≤ z8.toInt from by (first | exact om_7fe9249fc074 f132 hz167 | omega)) (Or.inr ⟨rfl, fun i hi h9 => by rcases Decidable.em (i = (Int32.toNatClampNeg y109)) with h8 | h8; (subst h8; exact shP_n (by omega)); exact (xlp111_1.resolve_left (fun h7 => by have h6 := h7.1; omega)).2 i hi (by omega)⟩) (by (first | exact om_9e7d2b874257 hn hz167 | omega)) hP hD hS (lv_sub hl [0, 1, 3, 4, 5, 6, 7, 8, 9] rfl)
                  · skip
                    have f169 : ((V 22 (Int32.toNatClampNeg z158))).toInt ≠ 3 := b_neq rfl (by decide) c165
                    refine lv_iload hx hb dX12_checkNeed_146 (lv_at hl 0 rfl) ?_
                    refine gE_int (g_runS (As := [.int (V 22 (Int32.toNatClampNeg z158))]) (rest := []) (wc := []) (tc := []) hx hb hml hown hg gw_self hP hD hK hS hA hnw hgk [] [] (by decide) rfl rfl (s_longness6 l D ks H.size (V 22 (Int32.toNatClampNeg z158)) ) w2180 w2181 w172 w2182 hdS_yX12_longness ⟨Nat.le_of_ble_eq_true rfl, Nat.le_of_ble_eq_true rfl⟩ rfl hl.1 rfl (Nat.le_of_ble_eq_true rfl) dX12_checkNeed_148 ⟨Nat.le_of_ble_eq_true rfl, Nat.le_of_ble_eq_true rfl⟩) hP hD hK hS hA (fun z170 u171 H locs w172 hP hD hK hS => ?_)
                    obtain ⟨rgz170, t173⟩ := w172
                    have rgz170 : 1 ≤ z170.toInt ∧ z170.toInt ≤ 3 := rgz170
                    have t173 : (((V 22 (Int32.toNatClampNeg z158))).toInt = 0 ∧ z170.toInt = 3) ∨ (((V 22 (Int32.toNatClampNeg z158))).toInt = 1 ∧ z170.toInt = 2) ∨ (((V 22 (Int32.toNatClampNeg z158))).toInt ≠ 0 ∧ ((V 22 (Int32.toNatClampNeg z158))).toInt ≠ 1 ∧ z170.toInt = 1) := t173
                    refine lv_aload_n hx hb dX12_checkNeed_151 rfl (lv_at hl 7 rfl) ?_
                    refine va_get (D := D) (ci := 12) (v := .ref (ad 22)) (C := RX12) (T := TX12) (N := 100) hx hb hg inX12 hown hK hP 0 rfl rfl 22 (by decide) (hg _ w1728) (fun _ h9 => h9) rfl dX12_checkNeed_152 ?_
                    refine lv_bipush (v := 24) hx hb dX12_checkNeed_155 (by decide) ?_
                    refine lv_aload_n hx hb dX12_checkNeed_157 rfl (lv_at hl 7 rfl) ?_
                    refine va_get (D := D) (ci := 12) (v := .int (V108 0 11)) (C := RX12) (T := TX12) (N := 100) hx hb hg inX12 hown hK hP 0 rfl rfl 11 (by decide) (hg _ w1717) (fun _ h9 => h9) rfl dX12_checkNeed_158 ?_
                    refine g_top (v := (V 0 11)) ((up2_o hV108 (by decide)).trans (ajV12 0 11 rfl)) ?_
                    refine lv_imul hx hb dX12_checkNeed_161 ?_
                    refine lv_topi (fun z174 ez174 => ?_)
                    have hz174 : z174.toInt = 24 * ((V 0 11)).toInt := i_mul ez174 (by decide) rfl (by (first | exact om_3f8aba7b6ce1 r1.1 r1.2 | omega))
                    refine lv_iload_n hx hb dX12_checkNeed_162 rfl (lv_at hl 8 rfl) ?_
                    refine lv_iadd hx hb dX12_checkNeed_163 ?_
                    refine lv_topi (fun z175 ez175 => ?_)
                    have hz175 : z175.toInt = z174.toInt + p0.toInt := i_add ez175 rfl rfl (by (first | exact om_6c84dfc0d33f rg_p0.1 rg_p0.2 r1.1 r1.2 hz174 | omega))
                    have g22 : (V 22 (Int32.toNatClampNeg z175)).toInt = ((gs.1 (61 + 8 * gc) : Nat) : Int) := by rw [show Int32.toNatClampNeg z175 = 24 * bq + gc from by have h9 := i_clamp (x := z175) rfl (by (first | exact om_11587583f9f8 rg_p0.1 r1.1 hz174 hz175 | omega)); omega]; exact (com gc gcl).1.2.1
                    refine va_iald (D := D) (i := z175) hx hb hK hP 15 14 rfl rfl (i_in (a := z175.toInt) rfl (by (first | exact om_cf341bf82a51 rg_p0.1 rg_p0.2 r1.1 r1.2 hz174 hz175 | omega))) dX12_checkNeed_164 ?_
                    refine g_top (v := (V 22 (Int32.toNatClampNeg z175))) ((up2_o hV108 (by decide)).trans (ajV12 22 (Int32.toNatClampNeg z175) rfl)) ?_
                    refine gE_int (g_runS (As := [.int (V 22 (Int32.toNatClampNeg z175))]) (rest := [.int z170]) (wc := []) (tc := []) hx hb hml hown hg gw_self hP hD hK hS hA hnw hgk [] [] (by decide) rfl rfl (s_longness6 l D ks H.size (V 22 (Int32.toNatClampNeg z175)) ) w2180 w2181 w172 w2182 hdS_yX12_longness ⟨Nat.le_of_ble_eq_true rfl, Nat.le_of_ble_eq_true rfl⟩ rfl hl.1 rfl (Nat.le_of_ble_eq_true rfl) dX12_checkNeed_165 ⟨Nat.le_of_ble_eq_true rfl, Nat.le_of_ble_eq_true rfl⟩) hP hD hK hS hA (fun z176 u177 H locs w178 hP hD hK hS => ?_)
                    obtain ⟨rgz176, t179⟩ := w178
                    have rgz176 : 1 ≤ z176.toInt ∧ z176.toInt ≤ 3 := rgz176
                    have t179 : (((V 22 (Int32.toNatClampNeg z175))).toInt = 0 ∧ z176.toInt = 3) ∨ (((V 22 (Int32.toNatClampNeg z175))).toInt = 1 ∧ z176.toInt = 2) ∨ (((V 22 (Int32.toNatClampNeg z175))).toInt ≠ 0 ∧ ((V 22 (Int32.toNatClampNeg z175))).toInt ≠ 1 ∧ z176.toInt = 1) := t179
                    refine lv_icmp_ge (tgt := 175) hx hb dX12_checkNeed_168 (by decide) (fun c180 => ?_) (fun c180 => ?_)
                    · skip
                      have f181 : z176.toInt ≤ z170.toInt := b_le rfl rfl c180
                      refine lv_iconst (v := 0) hx hb dX12_checkNeed_175 (by decide) ?_
                      refine lv_istore (lv' := [(7, .int 0), (9, .int (V 22 (Int32.toNatClampNeg z158))), (8, .int y109), (6, .int 0), (5, .int 0), (4, .int z8), (3, .int z7), (0, .ref (ad 0)), (1, .int p0), (2, .int p1)]) hx hb dX12_checkNeed_176 hl (by decide) rfl (fun ls hl => ?_)
                      obtain ⟨z182, ez182⟩ : ∃ y : Int32, y = y109 + 1 := ⟨_, rfl⟩
                      have hz182 : z182.toInt = y109.toInt + 1 := i_add ez182 rfl (by decide) (by (first | exact om_ef5c713ba60b rgz8.2 klp111_0.1 f132 | omega))
                      refine lv_iinc (v := z182) (lv' := [(8, .int z182), (7, .int 0), (9, .int (V 22 (Int32.toNatClampNeg z158))), (6, .int 0), (5, .int 0), (4, .int z8), (3, .int z7), (0, .ref (ad 0)), (1, .int p0), (2, .int p1)]) hx hb dX12_checkNeed_178 hl (k := 2) rfl (by rw [ez182]; rfl) (by decide) rfl (fun ls hl => ?_)
                      refine lv_goto (tgt := 97) hx hb dX12_checkNeed_181 (by decide) ?_
                      have r183 : Int32.toInt 0 = 0 := by decide
                      exact ihlp111 z182 0 H locs ls (by (first | exact om_66f93e1729e3 rgz8.2 klp111_0.1 f132 hz182 | omega)) (by decide) (show z182.toInt ≤ z8.toInt from by (first | exact om_7fe9249fc074 f132 hz182 | omega)) (Or.inr ⟨rfl, fun i hi h9 => by rcases Decidable.em (i = (Int32.toNatClampNeg y109)) with h8 | h8; (subst h8; exact shP_n (by omega)); exact (xlp111_1.resolve_left (fun h7 => by have h6 := h7.1; omega)).2 i hi (by omega)⟩) (by (first | exact om_9e7d2b874257 hn hz182 | omega)) hP hD hS (lv_sub hl [0, 1, 3, 4, 5, 6, 7, 8, 9] rfl)
                    · skip
                      have f184 : z170.toInt < z176.toInt := b_nle rfl rfl c180
                      refine lv_iconst (v := 1) hx hb dX12_checkNeed_171 (by decide) ?_
                      refine lv_goto (tgt := 176) hx hb dX12_checkNeed_172 (by decide) ?_
                      refine lv_istore (lv' := [(7, .int 1), (9, .int (V 22 (Int32.toNatClampNeg z158))), (8, .int y109), (6, .int 0), (5, .int 0), (4, .int z8), (3, .int z7), (0, .ref (ad 0)), (1, .int p0), (2, .int p1)]) hx hb dX12_checkNeed_176 hl (by decide) rfl (fun ls hl => ?_)
                      obtain ⟨z185, ez185⟩ : ∃ y : Int32, y = y109 + 1 := ⟨_, rfl⟩
                      have hz185 : z185.toInt = y109.toInt + 1 := i_add ez185 rfl (by decide) (by (first | exact om_ef5c713ba60b rgz8.2 klp111_0.1 f132 | omega))
                      refine lv_iinc (v := z185) (lv' := [(8, .int z185), (7, .int 1), (9, .int (V 22 (Int32.toNatClampNeg z158))), (6, .int 0), (5, .int 0), (4, .int z8), (3, .int z7), (0, .ref (ad 0)), (1, .int p0), (2, .int p1)]) hx hb dX12_checkNeed_178 hl (k := 2) rfl (by rw [ez185]; rfl) (by decide) rfl (fun ls hl => ?_)
                      refine lv_goto (tgt := 97) hx hb dX12_checkNeed_181 (by decide) ?_
                      have r186 : Int32.toInt 1 = 1 := by decide
                      have r187 : Int32.toInt 0 = 0 := by decide
                      exact ihlp111 z185 1 H locs ls (by (first | exact om_66f93e1729e3 rgz8.2 klp111_0.1 f132 hz185 | omega)) (by decide) (show z185.toInt ≤ z8.toInt from by (first | exact om_7fe9249fc074 f132 hz185 | omega)) (Or.inl ⟨rfl, (fun h9 => absurd (n29.mpr h9) (by omega)), _, List.getElem_mem hK9, shP_y (by omega) (by omega)⟩) (by (first | exact om_9e7d2b874257 hn hz185 | omega)) hP hD hS (lv_sub hl [0, 1, 3, 4, 5, 6, 7, 8, 9] rfl)
        have r188 : Int32.toInt 0 = 0 := by decide
        exact lp111 ((z8.toInt - (Int32.toInt 0) + 1 : Int).toNat) 0 0 H locs ls (by decide) (by decide) (show (Int32.toInt 0) ≤ z8.toInt from by (first | exact om_4f42a8f7b218 f102 r188 | omega)) (Or.inr ⟨rfl, fun i _ h9 => absurd h9 (by rw [show (Int32.toInt 0).toNat = 0 from by decide]; exact Nat.not_lt_zero _)⟩) (by (first | exact om_7441a7786481 | omega)) hP hD hS (lv_sub hl [0, 1, 2, 3, 4, 5, 6, 7, 8] rfl)
      · skip
        have f189 : ((V 30 (Int32.toNatClampNeg z7))).toInt = 0 := b_eq rfl (by decide) c104
        refine lv_iconst (v := 1) hx hb dX12_checkNeed_58 (by decide) ?_
        refine lv_goto (tgt := 63) hx hb dX12_checkNeed_59 (by decide) ?_
        refine lv_istore (lv' := [(6, .int 1), (5, .int 0), (4, .int z8), (3, .int z7), (0, .ref (ad 0)), (1, .int p0), (2, .int p1)]) hx hb dX12_checkNeed_63 hl (by decide) rfl (fun ls hl => ?_)
        refine lv_aload_n hx hb dX12_checkNeed_65 rfl (lv_at hl 4 rfl) ?_
        refine va_get (D := D) (ci := 12) (v := .ref (ad 86)) (C := RX12) (T := TX12) (N := 100) hx hb hg inX12 hown hK hP 0 rfl rfl 86 (by decide) (hg _ w1792) (fun _ h9 => h9) rfl dX12_checkNeed_66 ?_
        refine lv_bipush (v := 8) hx hb dX12_checkNeed_69 (by decide) ?_
        refine lv_iload_n hx hb dX12_checkNeed_71 rfl (lv_at hl 5 rfl) ?_
        refine lv_imul hx hb dX12_checkNeed_72 ?_
        refine lv_topi (fun z190 ez190 => ?_)
        have hz190 : z190.toInt = 8 * p0.toInt := i_mul ez190 (by decide) rfl (by (first | exact om_9e4b7225c539 rg_p0.1 rg_p0.2 | omega))
        refine lv_iload_n hx hb dX12_checkNeed_73 rfl (lv_at hl 6 rfl) ?_
        refine lv_iadd hx hb dX12_checkNeed_74 ?_
        refine lv_topi (fun z191 ez191 => ?_)
        have hz191 : z191.toInt = z190.toInt + p1.toInt := i_add ez191 rfl rfl (by (first | exact om_9f730d8f8954 rg_p0.1 rg_p0.2 rg_p1.1 rg_p1.2 hz190 | omega))
        refine lv_iload hx hb dX12_checkNeed_75 (lv_at hl 1 rfl) ?_
        refine lv_if_ne (tgt := 85) hx hb dX12_checkNeed_77 (by decide) (fun q => absurd rfl q) (fun _ => ?_)
        refine lv_iload hx hb dX12_checkNeed_80 (lv_at hl 0 rfl) ?_
        refine lv_if_eq (tgt := 89) hx hb dX12_checkNeed_82 (by decide) (fun q => absurd q (by decide)) (fun _ => ?_)
        refine lv_iconst (v := 1) hx hb dX12_checkNeed_85 (by decide) ?_
        refine lv_goto (tgt := 90) hx hb dX12_checkNeed_86 (by decide) ?_
        refine va_zast (D := D) (i := z191) (x := 1) hx hb hK hP hD hS 62 61 rfl rfl (i_in (a := z191.toInt) rfl (by (first | exact om_acd96330a334 rg_p0.1 rg_p0.2 rg_p1.1 rg_p1.2 hz190 hz191 | omega))) dX12_checkNeed_90 (fun H locs hP hD hS => ?_)
        obtain ⟨V192, hV192⟩ : ∃ z, z = up2 V12 86 (Int32.toNatClampNeg z191) (vp_nar .boolean 1) := ⟨_, rfl⟩
        have hP : va_P D vwCl (mw ad kk ks.1 V192 L) H := by rw [hV192]; exact hP
        have hD : va_D A (mw ad kk ks.1 V192 L) := by rw [hV192]; exact hD
        have hMV192 : rgd bM V192 := hMV12.put hV192 (nar_b _)
        have agV192 : agr [(0, 81)] [80, 82, 83, 84, 86] V V192 := agV12.up hV192 rfl
        have kw9 : Int32.toNatClampNeg z191 = 8 * gc + gj := by have h9 := i_clamp (x := z191) rfl (by (first | exact om_f770854b4059 rg_p0.1 rg_p1.1 hz190 hz191 | omega)); (first | exact om_71ad80e3b9e8 pk pj hz190 hz191 h9 | omega)
        refine lv_iconst (v := 0) hx hb dX12_checkNeed_91 (by decide) ?_
        refine lv_istore (lv' := [(7, .int 0), (6, .int 1), (5, .int 0), (4, .int z8), (3, .int z7), (0, .ref (ad 0)), (1, .int p0), (2, .int p1)]) hx hb dX12_checkNeed_92 hl (by decide) rfl (fun ls hl => ?_)
        refine lv_iconst (v := 0) hx hb dX12_checkNeed_94 (by decide) ?_
        refine lv_istore (lv' := [(8, .int 0), (7, .int 0), (6, .int 1), (5, .int 0), (4, .int z8), (3, .int z7), (0, .ref (ad 0)), (1, .int p0), (2, .int p1)]) hx hb dX12_checkNeed_95 hl (by decide) rfl (fun ls hl => ?_)
        have lp195 : ∀ (fulp195 : Nat) (y193 : Int32) (y194 : Int32) (H : Heap) (locs : List Loc) (ls : Array Slot), 0 ≤ y193.toInt ∧ y193.toInt ≤ 24 → 0 ≤ y194.toInt ∧ y194.toInt ≤ 1 → y193.toInt ≤ z8.toInt → ((y194.toInt = 1 ∧ (gs.1 (301 + 32 * gc + 4 * gj)) ≠ 1 ∧ ∃ g, g ∈ (clF gs.1 gv (gs.2.1 2).length gc gj) ∧ shP gs.1 gc g = true) ∨ (y194.toInt = 0 ∧ ∀ i (h : i < (clF gs.1 gv (gs.2.1 2).length gc gj).length), i < y193.toInt.toNat → shP gs.1 gc (clF gs.1 gv (gs.2.1 2).length gc gj)[i] = false)) → z8.toInt - y193.toInt < (fulp195 : Int) → va_P D vwCl (mw ad kk ks.1 V192 L) H → va_D A (mw ad kk ks.1 V192 L) → va_S A s.heap H locs → lv_has ls 10 [(8, .int y193), (7, .int y194), (6, .int 1), (5, .int 0), (4, .int z8), (3, .int z7), (0, .ref (ad 0)), (1, .int p0), (2, .int p1)] → W p l e r_s_checkNeed6 s m ([.ref (ad 0), .int p0, .int p1] : List Value).toArray below meth c H locs 0 0 (MQ below (q_s_checkNeed6 D ks ad kk V L p0 p1 bq gs gc gj gv gF A) ([.ref (ad 0), .int p0, .int p1] : List Value).toArray s 0 0 A) (F0 m 97 ls []) := by
          intro fulp195
          induction fulp195 with
          | zero =>
            intro y193 y194 H locs ls klp195_0 klp195_1 xlp195_0 xlp195_1 hn  hP hD hS hl
            exfalso; (first | exact om_4634b1278845 xlp195_0 hn | omega)
          | succ fulp195 ihlp195 =>
            intro y193 y194 H locs ls klp195_0 klp195_1 xlp195_0 xlp195_1 hn  hP hD hS hl
            refine lv_iload hx hb dX12_checkNeed_97 (lv_at hl 0 rfl) ?_
            refine lv_iload hx hb dX12_checkNeed_99 (lv_at hl 4 rfl) ?_
            refine lv_icmp_ge (tgt := 184) hx hb dX12_checkNeed_101 (by decide) (fun c196 => ?_) (fun c196 => ?_)
            · skip
              have f197 : z8.toInt ≤ y193.toInt := b_le rfl rfl c196
              refine lv_iload hx hb dX12_checkNeed_184 (lv_at hl 3 rfl) ?_
              refine lv_if_ne (tgt := 199) hx hb dX12_checkNeed_186 (by decide) (fun q => absurd rfl q) (fun _ => ?_)
              refine lv_iload hx hb dX12_checkNeed_189 (lv_at hl 2 rfl) ?_
              refine lv_if_ne (tgt := 199) hx hb dX12_checkNeed_191 (by decide) (fun _ => ?_) (fun q => absurd q (by decide))
              have ft198 : ftP gs.1 gv (gs.2.1 2).length gc gj = 2 := ft_2 (fun h9 => absurd (n30.mpr h9) (by omega)) (by omega)
              refine lv_aload_n hx hb dX12_checkNeed_199 rfl (lv_at hl 6 rfl) ?_
              refine lv_iload hx hb dX12_checkNeed_200 (lv_at hl 3 rfl) ?_
              refine lv_if_eq (tgt := 209) hx hb dX12_checkNeed_202 (by decide) (fun _ => ?_) (fun q => absurd (by decide) q)
              refine lv_iload hx hb dX12_checkNeed_209 (lv_at hl 2 rfl) ?_
              refine lv_if_eq (tgt := 218) hx hb dX12_checkNeed_211 (by decide) (fun q => absurd q (by decide)) (fun _ => ?_)
              refine lv_iconst (v := 2) hx hb dX12_checkNeed_214 (by decide) ?_
              refine lv_goto (tgt := 219) hx hb dX12_checkNeed_215 (by decide) ?_
              refine lv_iload_n hx hb dX12_checkNeed_219 rfl (lv_at hl 7 rfl) ?_
              refine lv_iload_n hx hb dX12_checkNeed_220 rfl (lv_at hl 8 rfl) ?_
              have r199 : Int32.toInt 2 = 2 := by decide
              have pq200 : (V192 0 81).toInt = ((V 0 81)).toInt := congrArg Int32.toInt ((up2_o hV192 (by decide)).trans (ajV12 0 81 rfl))
              refine gA_void (gA_runV (As := [.int 2, .int p0, .int p1]) (rest := []) (ci := 12) (q0 := 0) hx hb hml hown hg hP hD hK hS hA hnw hgk (s_addFault6 l D ks H.size ad kk V192 L 2 p0 p1 (gF) (ftP gs.1 gv (gs.2.1 2).length gc gj) (gc) (gj) (fun _ => 0) hMV192 (by (first | exact om_b6da0344f992 rg_p1.1 rg_p1.2 | omega)) (show (V192 0 81).toInt ≤ 999999 from by (first | exact om_92a90bb16346 y2 pq200 | omega)) (show (Int32.toInt 2) = (((ftP gs.1 gv (gs.2.1 2).length gc gj) : Nat) : Int) from by (first | exact om_ae187cbc5679 ft198 r199 | omega)) (show p0.toInt = (((gc) : Nat) : Int) from by (first | exact om_08e0c9701055 pk | omega)) (show p1.toInt = (((gj) : Nat) : Int) from by (first | exact om_08e0c9701055 pj | omega)) (FLm.fo flq (congrFun (by rw [(up2_fo hV192 (by decide) : V192 0 = V12 0), (funext (fun q => ajV12 0 q rfl) : V12 0 = V 0)] : V192 0 = V 0) 81) (by rw [(up2_fo hV192 (by decide) : V192 82 = V12 82), (funext (fun q => ajV12 82 q rfl) : V12 82 = V 82)] : V192 82 = V 82) (by rw [(up2_fo hV192 (by decide) : V192 83 = V12 83), (funext (fun q => ajV12 83 q rfl) : V12 83 = V 83)] : V192 83 = V 83) (by rw [(up2_fo hV192 (by decide) : V192 84 = V12 84), (funext (fun q => ajV12 84 q rfl) : V12 84 = V 84)] : V192 84 = V 84) (by rw [(up2_fo hV192 (by decide) : V192 85 = V12 85), (funext (fun q => ajV12 85 q rfl) : V12 85 = V 85)] : V192 85 = V 85)) (fun h3 => absurd h3 ft_ne3) (fun h3 => absurd h3 ft_ne3)) w2183 w2185 w121 w172 w2186 rfl rfl hdV_yX12_addFault ⟨Nat.le_of_ble_eq_true rfl, Nat.le_of_ble_eq_true rfl⟩ rfl hl.1 rfl (Nat.le_of_ble_eq_true rfl) dX12_checkNeed_221 ⟨Nat.le_of_ble_eq_true rfl, Nat.le_of_ble_eq_true rfl⟩) hP hD hK hS hA (fun u202 H locs w203 hP hD hK hS => ?_)
              obtain ⟨V206, L207⟩ := u202
              obtain ⟨hMV206, ajV206, axL207, t204, t205⟩ := w203
              have axL207 : L = L207 := Eq.symm axL207
              subst axL207
              have hP : va_P D vwCl (mw ad kk ks.1 V206 L) H := hP
              have hD : va_D A (mw ad kk ks.1 V206 L) := hD
              have hMV206 : rgd bM V206 := hMV206
              have ajV206 : agr [(0, 81)] [82, 83, 84] V192 V206 := ajV206
              have agV206 : agr [(0, 81)] [80, 82, 83, 84, 86] V V206 := agV192.tr ajV206 (by decide) (by decide)
              have t204 : (V206 0 81).toInt = (V192 0 81).toInt + 1 := t204
              have t205 : FLm V206 (adF (gF) (ftP gs.1 gv (gs.2.1 2).length gc gj) (gc) (gj) (fun _ => 0)) := t205
              have r208 : 0 ≤ ((V206 0 81)).toInt ∧ ((V206 0 81)).toInt ≤ 1000000 := hMV206 0 81
              have wg209 : WRG (V206 86 (8 * gc + gj)) gs.1 gv (gs.2.1 2).length gc gj := Or.inl ⟨(by rw [← kw9, (by rw [(funext (fun q => ajV206 86 q rfl) : V206 86 = V192 86)] : V206 86 = V192 86), up2_s hV192]; decide), by omega⟩
              exact W.vret hx hb hr (fun t ht hW => ⟨⟨(V206, L), rfl, ⟨hMV206, agV206, rfl, (show (V206 0 81).toInt ≤ (V 0 81).toInt + 1 from by (first | exact om_4073e2f93091 pq200 t204 | omega)), (show (V 0 81).toInt ≤ (V206 0 81).toInt from by (first | exact om_7fa199aab32e pq200 t204 | omega)), (by rw [ndO_1 (by omega)]; exact t205), wg209, (fun q9 h9 => (congrFun (by rw [(funext (fun q => ajV206 86 q rfl) : V206 86 = V192 86)] : V206 86 = V192 86) q9).trans ((up2_k hV192 (by rw [kw9]; exact h9)).trans (congrFun (by rw [(funext (fun q => ajV12 86 q rfl) : V12 86 = V 86)] : V12 86 = V 86) q9)))⟩, by rw [ht]; exact hP, va_K.moved hW.alike hK, hD⟩, hS.F ht⟩) hS.2.2 dX12_checkNeed_224
            · skip
              have f210 : y193.toInt < z8.toInt := b_nle rfl rfl c196
              refine lv_aload_n hx hb dX12_checkNeed_104 rfl (lv_at hl 6 rfl) ?_
              refine va_get (D := D) (ci := 12) (v := .ref (ad 29)) (C := RX12) (T := TX12) (N := 100) hx hb hg inX12 hown hK hP 0 rfl rfl 29 (by decide) (hg _ w1735) (fun _ h9 => h9) rfl dX12_checkNeed_105 ?_
              refine lv_iload_n hx hb dX12_checkNeed_108 rfl (lv_at hl 5 rfl) ?_
              refine va_zald (D := D) (i := z7) hx hb hK hP 22 21 rfl rfl (i_in (a := z7.toInt) rfl (by (first | exact om_fbf295219f60 rg_p0.1 rg_p0.2 rg_p1.1 rg_p1.2 r1.1 r1.2 hz4 hz5 hz6 hz7 | omega))) dX12_checkNeed_109 ?_
              refine g_top (v := (V 29 (Int32.toNatClampNeg z7))) ((up2_o hV192 (by decide)).trans (ajV12 29 (Int32.toNatClampNeg z7) rfl)) ?_
              have r211 : 0 ≤ ((V 29 (Int32.toNatClampNeg z7))).toInt ∧ ((V 29 (Int32.toNatClampNeg z7))).toInt ≤ 1 := hMV 29 (Int32.toNatClampNeg z7)
              refine lv_if_ne (tgt := 184) hx hb dX12_checkNeed_110 (by decide) (fun c212 => ?_) (fun c212 => ?_)
              · skip
                have f213 : ((V 29 (Int32.toNatClampNeg z7))).toInt ≠ 0 := b_neq rfl (by decide) c212
                refine lv_iload hx hb dX12_checkNeed_184 (lv_at hl 3 rfl) ?_
                refine lv_if_ne (tgt := 199) hx hb dX12_checkNeed_186 (by decide) (fun q => absurd rfl q) (fun _ => ?_)
                refine lv_iload hx hb dX12_checkNeed_189 (lv_at hl 2 rfl) ?_
                refine lv_if_ne (tgt := 199) hx hb dX12_checkNeed_191 (by decide) (fun _ => ?_) (fun q => absurd q (by decide))
                have ft214 : ftP gs.1 gv (gs.2.1 2).length gc gj = 2 := ft_2 (fun h9 => absurd (n30.mpr h9) (by omega)) (by omega)
                refine lv_aload_n hx hb dX12_checkNeed_199 rfl (lv_at hl 6 rfl) ?_
                refine lv_iload hx hb dX12_checkNeed_200 (lv_at hl 3 rfl) ?_
                refine lv_if_eq (tgt := 209) hx hb dX12_checkNeed_202 (by decide) (fun _ => ?_) (fun q => absurd (by decide) q)
                refine lv_iload hx hb dX12_checkNeed_209 (lv_at hl 2 rfl) ?_
                refine lv_if_eq (tgt := 218) hx hb dX12_checkNeed_211 (by decide) (fun q => absurd q (by decide)) (fun _ => ?_)
                refine lv_iconst (v := 2) hx hb dX12_checkNeed_214 (by decide) ?_
                refine lv_goto (tgt := 219) hx hb dX12_checkNeed_215 (by decide) ?_
                refine lv_iload_n hx hb dX12_checkNeed_219 rfl (lv_at hl 7 rfl) ?_
                refine lv_iload_n hx hb dX12_checkNeed_220 rfl (lv_at hl 8 rfl) ?_
                have r215 : Int32.toInt 2 = 2 := by decide
                have pq216 : (V192 0 81).toInt = ((V 0 81)).toInt := congrArg Int32.toInt ((up2_o hV192 (by decide)).trans (ajV12 0 81 rfl))
                refine gA_void (gA_runV (As := [.int 2, .int p0, .int p1]) (rest := []) (ci := 12) (q0 := 0) hx hb hml hown hg hP hD hK hS hA hnw hgk (s_addFault6 l D ks H.size ad kk V192 L 2 p0 p1 (gF) (ftP gs.1 gv (gs.2.1 2).length gc gj) (gc) (gj) (fun _ => 0) hMV192 (by (first | exact om_b6da0344f992 rg_p1.1 rg_p1.2 | omega)) (show (V192 0 81).toInt ≤ 999999 from by (first | exact om_92a90bb16346 y2 pq216 | omega)) (show (Int32.toInt 2) = (((ftP gs.1 gv (gs.2.1 2).length gc gj) : Nat) : Int) from by (first | exact om_ae187cbc5679 ft214 r215 | omega)) (show p0.toInt = (((gc) : Nat) : Int) from by (first | exact om_08e0c9701055 pk | omega)) (show p1.toInt = (((gj) : Nat) : Int) from by (first | exact om_08e0c9701055 pj | omega)) (FLm.fo flq (congrFun (by rw [(up2_fo hV192 (by decide) : V192 0 = V12 0), (funext (fun q => ajV12 0 q rfl) : V12 0 = V 0)] : V192 0 = V 0) 81) (by rw [(up2_fo hV192 (by decide) : V192 82 = V12 82), (funext (fun q => ajV12 82 q rfl) : V12 82 = V 82)] : V192 82 = V 82) (by rw [(up2_fo hV192 (by decide) : V192 83 = V12 83), (funext (fun q => ajV12 83 q rfl) : V12 83 = V 83)] : V192 83 = V 83) (by rw [(up2_fo hV192 (by decide) : V192 84 = V12 84), (funext (fun q => ajV12 84 q rfl) : V12 84 = V 84)] : V192 84 = V 84) (by rw [(up2_fo hV192 (by decide) : V192 85 = V12 85), (funext (fun q => ajV12 85 q rfl) : V12 85 = V 85)] : V192 85 = V 85)) (fun h3 => absurd h3 ft_ne3) (fun h3 => absurd h3 ft_ne3)) w2183 w2185 w121 w172 w2186 rfl rfl hdV_yX12_addFault ⟨Nat.le_of_ble_eq_true rfl, Nat.le_of_ble_eq_true rfl⟩ rfl hl.1 rfl (Nat.le_of_ble_eq_true rfl) dX12_checkNeed_221 ⟨Nat.le_of_ble_eq_true rfl, Nat.le_of_ble_eq_true rfl⟩) hP hD hK hS hA (fun u218 H locs w219 hP hD hK hS => ?_)
                obtain ⟨V222, L223⟩ := u218
                obtain ⟨hMV222, ajV222, axL223, t220, t221⟩ := w219
                have axL223 : L = L223 := Eq.symm axL223
                subst axL223
                have hP : va_P D vwCl (mw ad kk ks.1 V222 L) H := hP
                have hD : va_D A (mw ad kk ks.1 V222 L) := hD
                have hMV222 : rgd bM V222 := hMV222
                have ajV222 : agr [(0, 81)] [82, 83, 84] V192 V222 := ajV222
                have agV222 : agr [(0, 81)] [80, 82, 83, 84, 86] V V222 := agV192.tr ajV222 (by decide) (by decide)
                have t220 : (V222 0 81).toInt = (V192 0 81).toInt + 1 := t220
                have t221 : FLm V222 (adF (gF) (ftP gs.1 gv (gs.2.1 2).length gc gj) (gc) (gj) (fun _ => 0)) := t221
                have r224 : 0 ≤ ((V222 0 81)).toInt ∧ ((V222 0 81)).toInt ≤ 1000000 := hMV222 0 81
                have wg225 : WRG (V222 86 (8 * gc + gj)) gs.1 gv (gs.2.1 2).length gc gj := Or.inl ⟨(by rw [← kw9, (by rw [(funext (fun q => ajV222 86 q rfl) : V222 86 = V192 86)] : V222 86 = V192 86), up2_s hV192]; decide), by omega⟩
                exact W.vret hx hb hr (fun t ht hW => ⟨⟨(V222, L), rfl, ⟨hMV222, agV222, rfl, (show (V222 0 81).toInt ≤ (V 0 81).toInt + 1 from by (first | exact om_4073e2f93091 pq216 t220 | omega)), (show (V 0 81).toInt ≤ (V222 0 81).toInt from by (first | exact om_7fa199aab32e pq216 t220 | omega)), (by rw [ndO_1 (by omega)]; exact t221), wg225, (fun q9 h9 => (congrFun (by rw [(funext (fun q => ajV222 86 q rfl) : V222 86 = V192 86)] : V222 86 = V192 86) q9).trans ((up2_k hV192 (by rw [kw9]; exact h9)).trans (congrFun (by rw [(funext (fun q => ajV12 86 q rfl) : V12 86 = V 86)] : V12 86 = V 86) q9)))⟩, by rw [ht]; exact hP, va_K.moved hW.alike hK, hD⟩, hS.F ht⟩) hS.2.2 dX12_checkNeed_224
              · skip
                have f226 : ((V 29 (Int32.toNatClampNeg z7))).toInt = 0 := b_eq rfl (by decide) c212
                have ky9 := i_clamp (x := y193) rfl (by (first | exact om_eafa9039069c klp195_0.1 | omega))
                have hK9 : (Int32.toNatClampNeg y193) < (clF gs.1 gv (gs.2.1 2).length gc gj).length := by omega
                have cv9 : (V12 80 (Int32.toNatClampNeg y193)).toInt = (((clF gs.1 gv (gs.2.1 2).length gc gj)[(Int32.toNatClampNeg y193)] : Nat) : Int) := cv14.2 (Int32.toNatClampNeg y193) hK9
                have gl9 : (clF gs.1 gv (gs.2.1 2).length gc gj)[(Int32.toNatClampNeg y193)] < (gs.2.1 2).length := clF_lt (List.getElem_mem hK9)
                have pq227 : (V192 80 (Int32.toNatClampNeg y193)).toInt = ((V12 80 (Int32.toNatClampNeg y193))).toInt := congrArg Int32.toInt (up2_o hV192 (by decide))
                have r228 : 0 ≤ ((V12 80 (Int32.toNatClampNeg y193))).toInt ∧ ((V12 80 (Int32.toNatClampNeg y193))).toInt ≤ 23 := hMV12 80 (Int32.toNatClampNeg y193)
                refine lv_aload_n hx hb dX12_checkNeed_113 rfl (lv_at hl 6 rfl) ?_
                refine va_get (D := D) (ci := 12) (v := .ref (ad 22)) (C := RX12) (T := TX12) (N := 100) hx hb hg inX12 hown hK hP 0 rfl rfl 22 (by decide) (hg _ w1728) (fun _ h9 => h9) rfl dX12_checkNeed_114 ?_
                refine lv_bipush (v := 24) hx hb dX12_checkNeed_117 (by decide) ?_
                refine lv_aload_n hx hb dX12_checkNeed_119 rfl (lv_at hl 6 rfl) ?_
                refine va_get (D := D) (ci := 12) (v := .int (V192 0 11)) (C := RX12) (T := TX12) (N := 100) hx hb hg inX12 hown hK hP 0 rfl rfl 11 (by decide) (hg _ w1717) (fun _ h9 => h9) rfl dX12_checkNeed_120 ?_
                refine g_top (v := (V 0 11)) ((up2_o hV192 (by decide)).trans (ajV12 0 11 rfl)) ?_
                refine lv_imul hx hb dX12_checkNeed_123 ?_
                refine lv_topi (fun z229 ez229 => ?_)
                have hz229 : z229.toInt = 24 * ((V 0 11)).toInt := i_mul ez229 (by decide) rfl (by (first | exact om_3f8aba7b6ce1 r1.1 r1.2 | omega))
                refine lv_aload_n hx hb dX12_checkNeed_124 rfl (lv_at hl 6 rfl) ?_
                refine va_get (D := D) (ci := 12) (v := .ref (ad 80)) (C := RX12) (T := TX12) (N := 100) hx hb hg inX12 hown hK hP 0 rfl rfl 80 (by decide) (hg _ w1786) (fun _ h9 => h9) rfl dX12_checkNeed_125 ?_
                refine lv_iload hx hb dX12_checkNeed_128 (lv_at hl 0 rfl) ?_
                refine va_iald (D := D) (i := y193) hx hb hK hP 57 56 rfl rfl (i_in (a := y193.toInt) rfl (by (first | exact om_b50422aacf88 rgz8.2 klp195_0.1 f210 | omega))) dX12_checkNeed_130 ?_
                refine g_top (v := (V12 80 (Int32.toNatClampNeg y193))) (up2_o hV192 (by decide)) ?_
                refine lv_iadd hx hb dX12_checkNeed_131 ?_
                refine lv_topi (fun z230 ez230 => ?_)
                have hz230 : z230.toInt = z229.toInt + ((V12 80 (Int32.toNatClampNeg y193))).toInt := i_add ez230 rfl rfl (by (first | exact om_78286008d1d3 r1.1 r1.2 r228.1 r228.2 hz229 | omega))
                refine va_iald (D := D) (i := z230) hx hb hK hP 15 14 rfl rfl (i_in (a := z230.toInt) rfl (by (first | exact om_c17671f562fa r1.1 r1.2 r228.1 r228.2 hz229 hz230 | omega))) dX12_checkNeed_132 ?_
                refine g_top (v := (V 22 (Int32.toNatClampNeg z230))) ((up2_o hV192 (by decide)).trans (ajV12 22 (Int32.toNatClampNeg z230) rfl)) ?_
                refine lv_istore (lv' := [(9, .int (V 22 (Int32.toNatClampNeg z230))), (8, .int y193), (7, .int y194), (6, .int 1), (5, .int 0), (4, .int z8), (3, .int z7), (0, .ref (ad 0)), (1, .int p0), (2, .int p1)]) hx hb dX12_checkNeed_133 hl (by decide) rfl (fun ls hl => ?_)
                have h22 : (V 22 (Int32.toNatClampNeg z230)).toInt = ((gs.1 (61 + 8 * (clF gs.1 gv (gs.2.1 2).length gc gj)[(Int32.toNatClampNeg y193)]) : Nat) : Int) := by rw [show Int32.toNatClampNeg z230 = 24 * bq + (clF gs.1 gv (gs.2.1 2).length gc gj)[(Int32.toNatClampNeg y193)] from by have h9 := i_clamp (x := z230) rfl (by (first | exact om_19aed6992cbe r1.1 r228.1 hz229 hz230 | omega)); omega]; exact (com _ gl9).1.2.1
                have s3k := (t4 _ gl9).1
                refine lv_iload hx hb dX12_checkNeed_135 (lv_at hl 2 rfl) ?_
                refine lv_if_ne (tgt := 171) hx hb dX12_checkNeed_137 (by decide) (fun c231 => ?_) (fun c231 => ?_)
                · skip
                  have f232 : y194.toInt ≠ 0 := b_neq rfl (by decide) c231
                  refine lv_iconst (v := 1) hx hb dX12_checkNeed_171 (by decide) ?_
                  refine lv_goto (tgt := 176) hx hb dX12_checkNeed_172 (by decide) ?_
                  refine lv_istore (lv' := [(7, .int 1), (9, .int (V 22 (Int32.toNatClampNeg z230))), (8, .int y193), (6, .int 1), (5, .int 0), (4, .int z8), (3, .int z7), (0, .ref (ad 0)), (1, .int p0), (2, .int p1)]) hx hb dX12_checkNeed_176 hl (by decide) rfl (fun ls hl => ?_)
                  obtain ⟨z233, ez233⟩ : ∃ y : Int32, y = y193 + 1 := ⟨_, rfl⟩
                  have hz233 : z233.toInt = y193.toInt + 1 := i_add ez233 rfl (by decide) (by (first | exact om_ef5c713ba60b rgz8.2 klp195_0.1 f210 | omega))
                  refine lv_iinc (v := z233) (lv' := [(8, .int z233), (7, .int 1), (9, .int (V 22 (Int32.toNatClampNeg z230))), (6, .int 1), (5, .int 0), (4, .int z8), (3, .int z7), (0, .ref (ad 0)), (1, .int p0), (2, .int p1)]) hx hb dX12_checkNeed_178 hl (k := 2) rfl (by rw [ez233]; rfl) (by decide) rfl (fun ls hl => ?_)
                  refine lv_goto (tgt := 97) hx hb dX12_checkNeed_181 (by decide) ?_
                  have r234 : Int32.toInt 1 = 1 := by decide
                  have r235 : Int32.toInt 0 = 0 := by decide
                  exact ihlp195 z233 1 H locs ls (by (first | exact om_66f93e1729e3 rgz8.2 klp195_0.1 f210 hz233 | omega)) (by decide) (show z233.toInt ≤ z8.toInt from by (first | exact om_7fe9249fc074 f210 hz233 | omega)) (Or.inl ⟨rfl, (xlp195_1.resolve_right (fun h7 => by have h6 := h7.1; omega)).2⟩) (by (first | exact om_9e7d2b874257 hn hz233 | omega)) hP hD hS (lv_sub hl [0, 1, 3, 4, 5, 6, 7, 8, 9] rfl)
                · skip
                  have f236 : y194.toInt = 0 := b_eq rfl (by decide) c231
                  refine lv_iload hx hb dX12_checkNeed_140 (lv_at hl 0 rfl) ?_
                  refine lv_iconst (v := 3) hx hb dX12_checkNeed_142 (by decide) ?_
                  refine lv_icmp_eq (tgt := 175) hx hb dX12_checkNeed_143 (by decide) (fun c237 => ?_) (fun c237 => ?_)
                  · skip
                    have f238 : ((V 22 (Int32.toNatClampNeg z230))).toInt = 3 := b_eq rfl (by decide) c237
                    refine lv_iconst (v := 0) hx hb dX12_checkNeed_175 (by decide) ?_
                    refine lv_istore (lv' := [(7, .int 0), (9, .int (V 22 (Int32.toNatClampNeg z230))), (8, .int y193), (6, .int 1), (5, .int 0), (4, .int z8), (3, .int z7), (0, .ref (ad 0)), (1, .int p0), (2, .int p1)]) hx hb dX12_checkNeed_176 hl (by decide) rfl (fun ls hl => ?_)
                    obtain ⟨z239, ez239⟩ : ∃ y : Int32, y = y193 + 1 := ⟨_, rfl⟩
                    have hz239 : z239.toInt = y193.toInt + 1 := i_add ez239 rfl (by decide) (by (first | exact om_ef5c713ba60b rgz8.2 klp195_0.1 f210 | omega))
                    refine lv_iinc (v := z239) (lv' := [(8, .int z239), (7, .int 0), (9, .int (V 22 (Int32.toNatClampNeg z230))), (6, .int 1), (5, .int 0), (4, .int z8), (3, .int z7), (0, .ref (ad 0)), (1, .int p0), (2, .int p1)]) hx hb dX12_checkNeed_178 hl (k := 2) rfl (by rw [ez239]; rfl) (by decide) rfl (fun ls hl => ?_)
                    refine lv_goto (tgt := 97) hx hb dX12_checkNeed_181 (by decide) ?_
                    have r240 : Int32.toInt 0 = 0 := by decide
                    have r241 : Int32.toInt 1 = 1 := by decide
                    exact ihlp195 z239 0 H locs ls (by (first | exact om_66f93e1729e3 rgz8.2 klp195_0.1 f210 hz239 | omega)) (by decide) (show z239.toInt ≤ z8.toInt from by (first | exact om_7fe9249fc074 f210 hz239 | omega)) (Or.inr ⟨rfl, fun i hi h9 => by rcases Decidable.em (i = (Int32.toNatClampNeg y193)) with h8 | h8; (subst h8; exact shP_n (by omega)); exact (xlp195_1.resolve_left (fun h7 => by have h6 := h7.1; omega)).2 i hi (by omega)⟩) (by (first | exact om_9e7d2b874257 hn hz239 | omega)) hP hD hS (lv_sub hl [0, 1, 3, 4, 5, 6, 7, 8, 9] rfl)
                  · skip
                    have f242 : ((V 22 (Int32.toNatClampNeg z230))).toInt ≠ 3 := b_neq rfl (by decide) c237
                    refine lv_iload hx hb dX12_checkNeed_146 (lv_at hl 0 rfl) ?_
                    refine gE_int (g_runS (As := [.int (V 22 (Int32.toNatClampNeg z230))]) (rest := []) (wc := []) (tc := []) hx hb hml hown hg gw_self hP hD hK hS hA hnw hgk [] [] (by decide) rfl rfl (s_longness6 l D ks H.size (V 22 (Int32.toNatClampNeg z230)) ) w2180 w2181 w172 w2182 hdS_yX12_longness ⟨Nat.le_of_ble_eq_true rfl, Nat.le_of_ble_eq_true rfl⟩ rfl hl.1 rfl (Nat.le_of_ble_eq_true rfl) dX12_checkNeed_148 ⟨Nat.le_of_ble_eq_true rfl, Nat.le_of_ble_eq_true rfl⟩) hP hD hK hS hA (fun z243 u244 H locs w245 hP hD hK hS => ?_)
                    obtain ⟨rgz243, t246⟩ := w245
                    have rgz243 : 1 ≤ z243.toInt ∧ z243.toInt ≤ 3 := rgz243
                    have t246 : (((V 22 (Int32.toNatClampNeg z230))).toInt = 0 ∧ z243.toInt = 3) ∨ (((V 22 (Int32.toNatClampNeg z230))).toInt = 1 ∧ z243.toInt = 2) ∨ (((V 22 (Int32.toNatClampNeg z230))).toInt ≠ 0 ∧ ((V 22 (Int32.toNatClampNeg z230))).toInt ≠ 1 ∧ z243.toInt = 1) := t246
                    refine lv_aload_n hx hb dX12_checkNeed_151 rfl (lv_at hl 7 rfl) ?_
                    refine va_get (D := D) (ci := 12) (v := .ref (ad 22)) (C := RX12) (T := TX12) (N := 100) hx hb hg inX12 hown hK hP 0 rfl rfl 22 (by decide) (hg _ w1728) (fun _ h9 => h9) rfl dX12_checkNeed_152 ?_
                    refine lv_bipush (v := 24) hx hb dX12_checkNeed_155 (by decide) ?_
                    refine lv_aload_n hx hb dX12_checkNeed_157 rfl (lv_at hl 7 rfl) ?_
                    refine va_get (D := D) (ci := 12) (v := .int (V192 0 11)) (C := RX12) (T := TX12) (N := 100) hx hb hg inX12 hown hK hP 0 rfl rfl 11 (by decide) (hg _ w1717) (fun _ h9 => h9) rfl dX12_checkNeed_158 ?_
                    refine g_top (v := (V 0 11)) ((up2_o hV192 (by decide)).trans (ajV12 0 11 rfl)) ?_
                    refine lv_imul hx hb dX12_checkNeed_161 ?_
                    refine lv_topi (fun z247 ez247 => ?_)
                    have hz247 : z247.toInt = 24 * ((V 0 11)).toInt := i_mul ez247 (by decide) rfl (by (first | exact om_3f8aba7b6ce1 r1.1 r1.2 | omega))
                    refine lv_iload_n hx hb dX12_checkNeed_162 rfl (lv_at hl 8 rfl) ?_
                    refine lv_iadd hx hb dX12_checkNeed_163 ?_
                    refine lv_topi (fun z248 ez248 => ?_)
                    have hz248 : z248.toInt = z247.toInt + p0.toInt := i_add ez248 rfl rfl (by (first | exact om_6c84dfc0d33f rg_p0.1 rg_p0.2 r1.1 r1.2 hz247 | omega))
                    have g22 : (V 22 (Int32.toNatClampNeg z248)).toInt = ((gs.1 (61 + 8 * gc) : Nat) : Int) := by rw [show Int32.toNatClampNeg z248 = 24 * bq + gc from by have h9 := i_clamp (x := z248) rfl (by (first | exact om_11587583f9f8 rg_p0.1 r1.1 hz247 hz248 | omega)); omega]; exact (com gc gcl).1.2.1
                    refine va_iald (D := D) (i := z248) hx hb hK hP 15 14 rfl rfl (i_in (a := z248.toInt) rfl (by (first | exact om_cf341bf82a51 rg_p0.1 rg_p0.2 r1.1 r1.2 hz247 hz248 | omega))) dX12_checkNeed_164 ?_
                    refine g_top (v := (V 22 (Int32.toNatClampNeg z248))) ((up2_o hV192 (by decide)).trans (ajV12 22 (Int32.toNatClampNeg z248) rfl)) ?_
                    refine gE_int (g_runS (As := [.int (V 22 (Int32.toNatClampNeg z248))]) (rest := [.int z243]) (wc := []) (tc := []) hx hb hml hown hg gw_self hP hD hK hS hA hnw hgk [] [] (by decide) rfl rfl (s_longness6 l D ks H.size (V 22 (Int32.toNatClampNeg z248)) ) w2180 w2181 w172 w2182 hdS_yX12_longness ⟨Nat.le_of_ble_eq_true rfl, Nat.le_of_ble_eq_true rfl⟩ rfl hl.1 rfl (Nat.le_of_ble_eq_true rfl) dX12_checkNeed_165 ⟨Nat.le_of_ble_eq_true rfl, Nat.le_of_ble_eq_true rfl⟩) hP hD hK hS hA (fun z249 u250 H locs w251 hP hD hK hS => ?_)
                    obtain ⟨rgz249, t252⟩ := w251
                    have rgz249 : 1 ≤ z249.toInt ∧ z249.toInt ≤ 3 := rgz249
                    have t252 : (((V 22 (Int32.toNatClampNeg z248))).toInt = 0 ∧ z249.toInt = 3) ∨ (((V 22 (Int32.toNatClampNeg z248))).toInt = 1 ∧ z249.toInt = 2) ∨ (((V 22 (Int32.toNatClampNeg z248))).toInt ≠ 0 ∧ ((V 22 (Int32.toNatClampNeg z248))).toInt ≠ 1 ∧ z249.toInt = 1) := t252
                    refine lv_icmp_ge (tgt := 175) hx hb dX12_checkNeed_168 (by decide) (fun c253 => ?_) (fun c253 => ?_)
                    · skip
                      have f254 : z249.toInt ≤ z243.toInt := b_le rfl rfl c253
                      refine lv_iconst (v := 0) hx hb dX12_checkNeed_175 (by decide) ?_
                      refine lv_istore (lv' := [(7, .int 0), (9, .int (V 22 (Int32.toNatClampNeg z230))), (8, .int y193), (6, .int 1), (5, .int 0), (4, .int z8), (3, .int z7), (0, .ref (ad 0)), (1, .int p0), (2, .int p1)]) hx hb dX12_checkNeed_176 hl (by decide) rfl (fun ls hl => ?_)
                      obtain ⟨z255, ez255⟩ : ∃ y : Int32, y = y193 + 1 := ⟨_, rfl⟩
                      have hz255 : z255.toInt = y193.toInt + 1 := i_add ez255 rfl (by decide) (by (first | exact om_ef5c713ba60b rgz8.2 klp195_0.1 f210 | omega))
                      refine lv_iinc (v := z255) (lv' := [(8, .int z255), (7, .int 0), (9, .int (V 22 (Int32.toNatClampNeg z230))), (6, .int 1), (5, .int 0), (4, .int z8), (3, .int z7), (0, .ref (ad 0)), (1, .int p0), (2, .int p1)]) hx hb dX12_checkNeed_178 hl (k := 2) rfl (by rw [ez255]; rfl) (by decide) rfl (fun ls hl => ?_)
                      refine lv_goto (tgt := 97) hx hb dX12_checkNeed_181 (by decide) ?_
                      have r256 : Int32.toInt 0 = 0 := by decide
                      have r257 : Int32.toInt 1 = 1 := by decide
                      exact ihlp195 z255 0 H locs ls (by (first | exact om_66f93e1729e3 rgz8.2 klp195_0.1 f210 hz255 | omega)) (by decide) (show z255.toInt ≤ z8.toInt from by (first | exact om_7fe9249fc074 f210 hz255 | omega)) (Or.inr ⟨rfl, fun i hi h9 => by rcases Decidable.em (i = (Int32.toNatClampNeg y193)) with h8 | h8; (subst h8; exact shP_n (by omega)); exact (xlp195_1.resolve_left (fun h7 => by have h6 := h7.1; omega)).2 i hi (by omega)⟩) (by (first | exact om_9e7d2b874257 hn hz255 | omega)) hP hD hS (lv_sub hl [0, 1, 3, 4, 5, 6, 7, 8, 9] rfl)
                    · skip
                      have f258 : z243.toInt < z249.toInt := b_nle rfl rfl c253
                      refine lv_iconst (v := 1) hx hb dX12_checkNeed_171 (by decide) ?_
                      refine lv_goto (tgt := 176) hx hb dX12_checkNeed_172 (by decide) ?_
                      refine lv_istore (lv' := [(7, .int 1), (9, .int (V 22 (Int32.toNatClampNeg z230))), (8, .int y193), (6, .int 1), (5, .int 0), (4, .int z8), (3, .int z7), (0, .ref (ad 0)), (1, .int p0), (2, .int p1)]) hx hb dX12_checkNeed_176 hl (by decide) rfl (fun ls hl => ?_)
                      obtain ⟨z259, ez259⟩ : ∃ y : Int32, y = y193 + 1 := ⟨_, rfl⟩
                      have hz259 : z259.toInt = y193.toInt + 1 := i_add ez259 rfl (by decide) (by (first | exact om_ef5c713ba60b rgz8.2 klp195_0.1 f210 | omega))
                      refine lv_iinc (v := z259) (lv' := [(8, .int z259), (7, .int 1), (9, .int (V 22 (Int32.toNatClampNeg z230))), (6, .int 1), (5, .int 0), (4, .int z8), (3, .int z7), (0, .ref (ad 0)), (1, .int p0), (2, .int p1)]) hx hb dX12_checkNeed_178 hl (k := 2) rfl (by rw [ez259]; rfl) (by decide) rfl (fun ls hl => ?_)
                      refine lv_goto (tgt := 97) hx hb dX12_checkNeed_181 (by decide) ?_
                      have r260 : Int32.toInt 1 = 1 := by decide
                      have r261 : Int32.toInt 0 = 0 := by decide
                      exact ihlp195 z259 1 H locs ls (by (first | exact om_66f93e1729e3 rgz8.2 klp195_0.1 f210 hz259 | omega)) (by decide) (show z259.toInt ≤ z8.toInt from by (first | exact om_7fe9249fc074 f210 hz259 | omega)) (Or.inl ⟨rfl, (fun h9 => absurd (n29.mpr h9) (by omega)), _, List.getElem_mem hK9, shP_y (by omega) (by omega)⟩) (by (first | exact om_9e7d2b874257 hn hz259 | omega)) hP hD hS (lv_sub hl [0, 1, 3, 4, 5, 6, 7, 8, 9] rfl)
        have r262 : Int32.toInt 0 = 0 := by decide
        have r263 : Int32.toInt 1 = 1 := by decide
        exact lp195 ((z8.toInt - (Int32.toInt 0) + 1 : Int).toNat) 0 0 H locs ls (by decide) (by decide) (show (Int32.toInt 0) ≤ z8.toInt from by (first | exact om_4f42a8f7b218 f102 r262 | omega)) (Or.inr ⟨rfl, fun i _ h9 => absurd h9 (by rw [show (Int32.toInt 0).toNat = 0 from by decide]; exact Nat.not_lt_zero _)⟩) (by (first | exact om_7441a7786481 | omega)) hP hD hS (lv_sub hl [0, 1, 2, 3, 4, 5, 6, 7, 8] rfl)
  · skip
    have f264 : z8.toInt = 0 := b_eq rfl (by decide) c15
    refine lv_aload_n hx hb dX12_checkNeed_27 rfl (lv_at hl 2 rfl) ?_
    refine va_get (D := D) (ci := 12) (v := .ref (ad 30)) (C := RX12) (T := TX12) (N := 100) hx hb hg inX12 hown hK hP 0 rfl rfl 30 (by decide) (hg _ w1736) (fun _ h9 => h9) rfl dX12_checkNeed_28 ?_
    refine lv_iload_n hx hb dX12_checkNeed_31 rfl (lv_at hl 1 rfl) ?_
    refine va_zald (D := D) (i := z7) hx hb hK hP 23 22 rfl rfl (i_in (a := z7.toInt) rfl (by (first | exact om_fbf295219f60 rg_p0.1 rg_p0.2 rg_p1.1 rg_p1.2 r1.1 r1.2 hz4 hz5 hz6 hz7 | omega))) dX12_checkNeed_32 ?_
    refine g_top (v := (V 30 (Int32.toNatClampNeg z7))) (ajV12 30 (Int32.toNatClampNeg z7) rfl) ?_
    have r265 : 0 ≤ ((V 30 (Int32.toNatClampNeg z7))).toInt ∧ ((V 30 (Int32.toNatClampNeg z7))).toInt ≤ 1 := hMV 30 (Int32.toNatClampNeg z7)
    refine lv_if_ne (tgt := 40) hx hb dX12_checkNeed_33 (by decide) (fun c266 => ?_) (fun c266 => ?_)
    · skip
      have f267 : ((V 30 (Int32.toNatClampNeg z7))).toInt ≠ 0 := b_neq rfl (by decide) c266
      refine lv_iconst (v := 0) hx hb dX12_checkNeed_40 (by decide) ?_
      refine lv_istore (lv' := [(5, .int 0), (4, .int z8), (3, .int z7), (0, .ref (ad 0)), (1, .int p0), (2, .int p1)]) hx hb dX12_checkNeed_41 hl (by decide) rfl (fun ls hl => ?_)
      refine lv_iload hx hb dX12_checkNeed_43 (lv_at hl 1 rfl) ?_
      refine lv_iconst (v := 1) hx hb dX12_checkNeed_45 (by decide) ?_
      refine lv_icmp_le (tgt := 62) hx hb dX12_checkNeed_46 (by decide) (fun c268 => ?_) (fun c268 => ?_)
      · skip
        have f269 : z8.toInt ≤ 1 := b_le rfl (by decide) c268
        refine lv_iconst (v := 0) hx hb dX12_checkNeed_62 (by decide) ?_
        refine lv_istore (lv' := [(6, .int 0), (5, .int 0), (4, .int z8), (3, .int z7), (0, .ref (ad 0)), (1, .int p0), (2, .int p1)]) hx hb dX12_checkNeed_63 hl (by decide) rfl (fun ls hl => ?_)
        refine lv_aload_n hx hb dX12_checkNeed_65 rfl (lv_at hl 4 rfl) ?_
        refine va_get (D := D) (ci := 12) (v := .ref (ad 86)) (C := RX12) (T := TX12) (N := 100) hx hb hg inX12 hown hK hP 0 rfl rfl 86 (by decide) (hg _ w1792) (fun _ h9 => h9) rfl dX12_checkNeed_66 ?_
        refine lv_bipush (v := 8) hx hb dX12_checkNeed_69 (by decide) ?_
        refine lv_iload_n hx hb dX12_checkNeed_71 rfl (lv_at hl 5 rfl) ?_
        refine lv_imul hx hb dX12_checkNeed_72 ?_
        refine lv_topi (fun z270 ez270 => ?_)
        have hz270 : z270.toInt = 8 * p0.toInt := i_mul ez270 (by decide) rfl (by (first | exact om_9e4b7225c539 rg_p0.1 rg_p0.2 | omega))
        refine lv_iload_n hx hb dX12_checkNeed_73 rfl (lv_at hl 6 rfl) ?_
        refine lv_iadd hx hb dX12_checkNeed_74 ?_
        refine lv_topi (fun z271 ez271 => ?_)
        have hz271 : z271.toInt = z270.toInt + p1.toInt := i_add ez271 rfl rfl (by (first | exact om_9f730d8f8954 rg_p0.1 rg_p0.2 rg_p1.1 rg_p1.2 hz270 | omega))
        refine lv_iload hx hb dX12_checkNeed_75 (lv_at hl 1 rfl) ?_
        refine lv_if_ne (tgt := 85) hx hb dX12_checkNeed_77 (by decide) (fun q => absurd rfl q) (fun _ => ?_)
        refine lv_iload hx hb dX12_checkNeed_80 (lv_at hl 0 rfl) ?_
        refine lv_if_eq (tgt := 89) hx hb dX12_checkNeed_82 (by decide) (fun _ => ?_) (fun q => absurd (by decide) q)
        refine lv_iconst (v := 0) hx hb dX12_checkNeed_89 (by decide) ?_
        refine va_zast (D := D) (i := z271) (x := 0) hx hb hK hP hD hS 62 61 rfl rfl (i_in (a := z271.toInt) rfl (by (first | exact om_acd96330a334 rg_p0.1 rg_p0.2 rg_p1.1 rg_p1.2 hz270 hz271 | omega))) dX12_checkNeed_90 (fun H locs hP hD hS => ?_)
        obtain ⟨V272, hV272⟩ : ∃ z, z = up2 V12 86 (Int32.toNatClampNeg z271) (vp_nar .boolean 0) := ⟨_, rfl⟩
        have hP : va_P D vwCl (mw ad kk ks.1 V272 L) H := by rw [hV272]; exact hP
        have hD : va_D A (mw ad kk ks.1 V272 L) := by rw [hV272]; exact hD
        have hMV272 : rgd bM V272 := hMV12.put hV272 (nar_b _)
        have agV272 : agr [(0, 81)] [80, 82, 83, 84, 86] V V272 := agV12.up hV272 rfl
        have kw9 : Int32.toNatClampNeg z271 = 8 * gc + gj := by have h9 := i_clamp (x := z271) rfl (by (first | exact om_f770854b4059 rg_p0.1 rg_p1.1 hz270 hz271 | omega)); (first | exact om_71ad80e3b9e8 pk pj hz270 hz271 h9 | omega)
        refine lv_iconst (v := 0) hx hb dX12_checkNeed_91 (by decide) ?_
        refine lv_istore (lv' := [(7, .int 0), (6, .int 0), (5, .int 0), (4, .int z8), (3, .int z7), (0, .ref (ad 0)), (1, .int p0), (2, .int p1)]) hx hb dX12_checkNeed_92 hl (by decide) rfl (fun ls hl => ?_)
        refine lv_iconst (v := 0) hx hb dX12_checkNeed_94 (by decide) ?_
        refine lv_istore (lv' := [(8, .int 0), (7, .int 0), (6, .int 0), (5, .int 0), (4, .int z8), (3, .int z7), (0, .ref (ad 0)), (1, .int p0), (2, .int p1)]) hx hb dX12_checkNeed_95 hl (by decide) rfl (fun ls hl => ?_)
        have lp275 : ∀ (fulp275 : Nat) (y273 : Int32) (y274 : Int32) (H : Heap) (locs : List Loc) (ls : Array Slot), 0 ≤ y273.toInt ∧ y273.toInt ≤ 24 → 0 ≤ y274.toInt ∧ y274.toInt ≤ 1 → y273.toInt ≤ z8.toInt → ((y274.toInt = 1 ∧ (gs.1 (301 + 32 * gc + 4 * gj)) ≠ 1 ∧ ∃ g, g ∈ (clF gs.1 gv (gs.2.1 2).length gc gj) ∧ shP gs.1 gc g = true) ∨ (y274.toInt = 0 ∧ ∀ i (h : i < (clF gs.1 gv (gs.2.1 2).length gc gj).length), i < y273.toInt.toNat → shP gs.1 gc (clF gs.1 gv (gs.2.1 2).length gc gj)[i] = false)) → z8.toInt - y273.toInt < (fulp275 : Int) → va_P D vwCl (mw ad kk ks.1 V272 L) H → va_D A (mw ad kk ks.1 V272 L) → va_S A s.heap H locs → lv_has ls 10 [(8, .int y273), (7, .int y274), (6, .int 0), (5, .int 0), (4, .int z8), (3, .int z7), (0, .ref (ad 0)), (1, .int p0), (2, .int p1)] → W p l e r_s_checkNeed6 s m ([.ref (ad 0), .int p0, .int p1] : List Value).toArray below meth c H locs 0 0 (MQ below (q_s_checkNeed6 D ks ad kk V L p0 p1 bq gs gc gj gv gF A) ([.ref (ad 0), .int p0, .int p1] : List Value).toArray s 0 0 A) (F0 m 97 ls []) := by
          intro fulp275
          induction fulp275 with
          | zero =>
            intro y273 y274 H locs ls klp275_0 klp275_1 xlp275_0 xlp275_1 hn  hP hD hS hl
            exfalso; (first | exact om_4634b1278845 xlp275_0 hn | omega)
          | succ fulp275 ihlp275 =>
            intro y273 y274 H locs ls klp275_0 klp275_1 xlp275_0 xlp275_1 hn  hP hD hS hl
            refine lv_iload hx hb dX12_checkNeed_97 (lv_at hl 0 rfl) ?_
            refine lv_iload hx hb dX12_checkNeed_99 (lv_at hl 4 rfl) ?_
            refine lv_icmp_ge (tgt := 184) hx hb dX12_checkNeed_101 (by decide) (fun c276 => ?_) (fun c276 => ?_)
            · skip
              have f277 : z8.toInt ≤ y273.toInt := b_le rfl rfl c276
              refine lv_iload hx hb dX12_checkNeed_184 (lv_at hl 3 rfl) ?_
              refine lv_if_ne (tgt := 199) hx hb dX12_checkNeed_186 (by decide) (fun q => absurd rfl q) (fun _ => ?_)
              refine lv_iload hx hb dX12_checkNeed_189 (lv_at hl 2 rfl) ?_
              refine lv_if_ne (tgt := 199) hx hb dX12_checkNeed_191 (by decide) (fun q => absurd rfl q) (fun _ => ?_)
              refine lv_iload hx hb dX12_checkNeed_194 (lv_at hl 1 rfl) ?_
              refine lv_if_eq (tgt := 224) hx hb dX12_checkNeed_196 (by decide) (fun c278 => ?_) (fun c278 => ?_)
              · skip
                have f279 : y274.toInt = 0 := b_eq rfl (by decide) c278
                have pq280 : (V272 0 81).toInt = ((V 0 81)).toInt := congrArg Int32.toInt ((up2_o hV272 (by decide)).trans (ajV12 0 81 rfl))
                have ft281 : ftP gs.1 gv (gs.2.1 2).length gc gj = 0 := ft_0 (show (gs.1 (301 + 32 * gc + 4 * gj)) = 2 ∨ (clF gs.1 gv (gs.2.1 2).length gc gj).length = 1 from by rcases Decidable.em ((gs.1 (301 + 32 * gc + 4 * gj)) = 2) with h9 | h9; exact Or.inl h9; (have h8 := mt n30.mp h9; right; omega)) (by rcases Decidable.em ((gs.1 (301 + 32 * gc + 4 * gj)) = 1) with h9 | h9; exact Or.inl h9; (right; intro g9 m9; obtain ⟨i9, hi9, e9⟩ := List.mem_iff_getElem.mp m9; rw [← e9]; have h8 := mt n29.mp h9; exact (xlp275_1.resolve_left (fun h7 => by have h6 := h7.1; omega)).2 i9 hi9 (by omega)))
                have wg282 : WRG (V272 86 (8 * gc + gj)) gs.1 gv (gs.2.1 2).length gc gj := Or.inr ⟨(by rw [← kw9, up2_s hV272]; decide), by omega⟩
                exact W.vret hx hb hr (fun t ht hW => ⟨⟨(V272, L), rfl, ⟨hMV272, agV272, rfl, (show (V272 0 81).toInt ≤ (V 0 81).toInt + 1 from by (first | exact om_c3b61c06432f pq280 | omega)), (show (V 0 81).toInt ≤ (V272 0 81).toInt from by (first | exact om_abdc88b0c8fc pq280 | omega)), (by rw [ndO_0 (by omega)]; exact FLm.fo flq (congrFun (by rw [(up2_fo hV272 (by decide) : V272 0 = V12 0), (funext (fun q => ajV12 0 q rfl) : V12 0 = V 0)] : V272 0 = V 0) 81) (by rw [(up2_fo hV272 (by decide) : V272 82 = V12 82), (funext (fun q => ajV12 82 q rfl) : V12 82 = V 82)] : V272 82 = V 82) (by rw [(up2_fo hV272 (by decide) : V272 83 = V12 83), (funext (fun q => ajV12 83 q rfl) : V12 83 = V 83)] : V272 83 = V 83) (by rw [(up2_fo hV272 (by decide) : V272 84 = V12 84), (funext (fun q => ajV12 84 q rfl) : V12 84 = V 84)] : V272 84 = V 84) (by rw [(up2_fo hV272 (by decide) : V272 85 = V12 85), (funext (fun q => ajV12 85 q rfl) : V12 85 = V 85)] : V272 85 = V 85)), wg282, (fun q9 h9 => (congrFun (rfl : V272 86 = V272 86) q9).trans ((up2_k hV272 (by rw [kw9]; exact h9)).trans (congrFun (by rw [(funext (fun q => ajV12 86 q rfl) : V12 86 = V 86)] : V12 86 = V 86) q9)))⟩, by rw [ht]; exact hP, va_K.moved hW.alike hK, hD⟩, hS.F ht⟩) hS.2.2 dX12_checkNeed_224
              · skip
                have f283 : y274.toInt ≠ 0 := b_neq rfl (by decide) c278
                have ft284 : ftP gs.1 gv (gs.2.1 2).length gc gj = 4 := by obtain ⟨k9, g9, a9, b9⟩ := (xlp275_1.resolve_right (fun h7 => by have h6 := h7.1; omega)).2; exact ft_4 (show (gs.1 (301 + 32 * gc + 4 * gj)) = 2 ∨ (clF gs.1 gv (gs.2.1 2).length gc gj).length = 1 from by rcases Decidable.em ((gs.1 (301 + 32 * gc + 4 * gj)) = 2) with h9 | h9; exact Or.inl h9; (have h8 := mt n30.mp h9; right; omega)) k9 a9 b9
                refine lv_aload_n hx hb dX12_checkNeed_199 rfl (lv_at hl 6 rfl) ?_
                refine lv_iload hx hb dX12_checkNeed_200 (lv_at hl 3 rfl) ?_
                refine lv_if_eq (tgt := 209) hx hb dX12_checkNeed_202 (by decide) (fun _ => ?_) (fun q => absurd (by decide) q)
                refine lv_iload hx hb dX12_checkNeed_209 (lv_at hl 2 rfl) ?_
                refine lv_if_eq (tgt := 218) hx hb dX12_checkNeed_211 (by decide) (fun _ => ?_) (fun q => absurd (by decide) q)
                refine lv_iconst (v := 4) hx hb dX12_checkNeed_218 (by decide) ?_
                refine lv_iload_n hx hb dX12_checkNeed_219 rfl (lv_at hl 7 rfl) ?_
                refine lv_iload_n hx hb dX12_checkNeed_220 rfl (lv_at hl 8 rfl) ?_
                have r285 : Int32.toInt 4 = 4 := by decide
                have pq286 : (V272 0 81).toInt = ((V 0 81)).toInt := congrArg Int32.toInt ((up2_o hV272 (by decide)).trans (ajV12 0 81 rfl))
                refine gA_void (gA_runV (As := [.int 4, .int p0, .int p1]) (rest := []) (ci := 12) (q0 := 0) hx hb hml hown hg hP hD hK hS hA hnw hgk (s_addFault6 l D ks H.size ad kk V272 L 4 p0 p1 (gF) (ftP gs.1 gv (gs.2.1 2).length gc gj) (gc) (gj) (fun _ => 0) hMV272 (by (first | exact om_b6da0344f992 rg_p1.1 rg_p1.2 | omega)) (show (V272 0 81).toInt ≤ 999999 from by (first | exact om_92a90bb16346 y2 pq286 | omega)) (show (Int32.toInt 4) = (((ftP gs.1 gv (gs.2.1 2).length gc gj) : Nat) : Int) from by (first | exact om_259ff51de1b6 ft284 r285 | omega)) (show p0.toInt = (((gc) : Nat) : Int) from by (first | exact om_08e0c9701055 pk | omega)) (show p1.toInt = (((gj) : Nat) : Int) from by (first | exact om_08e0c9701055 pj | omega)) (FLm.fo flq (congrFun (by rw [(up2_fo hV272 (by decide) : V272 0 = V12 0), (funext (fun q => ajV12 0 q rfl) : V12 0 = V 0)] : V272 0 = V 0) 81) (by rw [(up2_fo hV272 (by decide) : V272 82 = V12 82), (funext (fun q => ajV12 82 q rfl) : V12 82 = V 82)] : V272 82 = V 82) (by rw [(up2_fo hV272 (by decide) : V272 83 = V12 83), (funext (fun q => ajV12 83 q rfl) : V12 83 = V 83)] : V272 83 = V 83) (by rw [(up2_fo hV272 (by decide) : V272 84 = V12 84), (funext (fun q => ajV12 84 q rfl) : V12 84 = V 84)] : V272 84 = V 84) (by rw [(up2_fo hV272 (by decide) : V272 85 = V12 85), (funext (fun q => ajV12 85 q rfl) : V12 85 = V 85)] : V272 85 = V 85)) (fun h3 => absurd h3 ft_ne3) (fun h3 => absurd h3 ft_ne3)) w2183 w2185 w121 w172 w2186 rfl rfl hdV_yX12_addFault ⟨Nat.le_of_ble_eq_true rfl, Nat.le_of_ble_eq_true rfl⟩ rfl hl.1 rfl (Nat.le_of_ble_eq_true rfl) dX12_checkNeed_221 ⟨Nat.le_of_ble_eq_true rfl, Nat.le_of_ble_eq_true rfl⟩) hP hD hK hS hA (fun u288 H locs w289 hP hD hK hS => ?_)
                obtain ⟨V292, L293⟩ := u288
                obtain ⟨hMV292, ajV292, axL293, t290, t291⟩ := w289
                have axL293 : L = L293 := Eq.symm axL293
                subst axL293
                have hP : va_P D vwCl (mw ad kk ks.1 V292 L) H := hP
                have hD : va_D A (mw ad kk ks.1 V292 L) := hD
                have hMV292 : rgd bM V292 := hMV292
                have ajV292 : agr [(0, 81)] [82, 83, 84] V272 V292 := ajV292
                have agV292 : agr [(0, 81)] [80, 82, 83, 84, 86] V V292 := agV272.tr ajV292 (by decide) (by decide)
                have t290 : (V292 0 81).toInt = (V272 0 81).toInt + 1 := t290
                have t291 : FLm V292 (adF (gF) (ftP gs.1 gv (gs.2.1 2).length gc gj) (gc) (gj) (fun _ => 0)) := t291
                have r294 : 0 ≤ ((V292 0 81)).toInt ∧ ((V292 0 81)).toInt ≤ 1000000 := hMV292 0 81
                have wg295 : WRG (V292 86 (8 * gc + gj)) gs.1 gv (gs.2.1 2).length gc gj := Or.inr ⟨(by rw [← kw9, (by rw [(funext (fun q => ajV292 86 q rfl) : V292 86 = V272 86)] : V292 86 = V272 86), up2_s hV272]; decide), by omega⟩
                exact W.vret hx hb hr (fun t ht hW => ⟨⟨(V292, L), rfl, ⟨hMV292, agV292, rfl, (show (V292 0 81).toInt ≤ (V 0 81).toInt + 1 from by (first | exact om_4073e2f93091 pq286 t290 | omega)), (show (V 0 81).toInt ≤ (V292 0 81).toInt from by (first | exact om_7fa199aab32e pq286 t290 | omega)), (by rw [ndO_1 (by omega)]; exact t291), wg295, (fun q9 h9 => (congrFun (by rw [(funext (fun q => ajV292 86 q rfl) : V292 86 = V272 86)] : V292 86 = V272 86) q9).trans ((up2_k hV272 (by rw [kw9]; exact h9)).trans (congrFun (by rw [(funext (fun q => ajV12 86 q rfl) : V12 86 = V 86)] : V12 86 = V 86) q9)))⟩, by rw [ht]; exact hP, va_K.moved hW.alike hK, hD⟩, hS.F ht⟩) hS.2.2 dX12_checkNeed_224
            · skip
              have f296 : y273.toInt < z8.toInt := b_nle rfl rfl c276
              exfalso; (first | exact om_e5920f11f013 f264 klp275_0.1 f296 | omega)
        have r297 : Int32.toInt 0 = 0 := by decide
        exact lp275 ((z8.toInt - (Int32.toInt 0) + 1 : Int).toNat) 0 0 H locs ls (by decide) (by decide) (show (Int32.toInt 0) ≤ z8.toInt from by (first | exact om_6f9bb8cf3bec rgz8.1 r297 | omega)) (Or.inr ⟨rfl, fun i _ h9 => absurd h9 (by rw [show (Int32.toInt 0).toNat = 0 from by decide]; exact Nat.not_lt_zero _)⟩) (by (first | exact om_7441a7786481 | omega)) hP hD hS (lv_sub hl [0, 1, 2, 3, 4, 5, 6, 7, 8] rfl)
      · skip
        have f298 : 1 < z8.toInt := b_nle rfl (by decide) c268
        exfalso; (first | exact om_d30a4a4dfd74 f264 f298 | omega)
    · skip
      have f299 : ((V 30 (Int32.toNatClampNeg z7))).toInt = 0 := b_eq rfl (by decide) c266
      refine lv_iconst (v := 1) hx hb dX12_checkNeed_36 (by decide) ?_
      refine lv_goto (tgt := 41) hx hb dX12_checkNeed_37 (by decide) ?_
      refine lv_istore (lv' := [(5, .int 1), (4, .int z8), (3, .int z7), (0, .ref (ad 0)), (1, .int p0), (2, .int p1)]) hx hb dX12_checkNeed_41 hl (by decide) rfl (fun ls hl => ?_)
      refine lv_iload hx hb dX12_checkNeed_43 (lv_at hl 1 rfl) ?_
      refine lv_iconst (v := 1) hx hb dX12_checkNeed_45 (by decide) ?_
      refine lv_icmp_le (tgt := 62) hx hb dX12_checkNeed_46 (by decide) (fun c300 => ?_) (fun c300 => ?_)
      · skip
        have f301 : z8.toInt ≤ 1 := b_le rfl (by decide) c300
        refine lv_iconst (v := 0) hx hb dX12_checkNeed_62 (by decide) ?_
        refine lv_istore (lv' := [(6, .int 0), (5, .int 1), (4, .int z8), (3, .int z7), (0, .ref (ad 0)), (1, .int p0), (2, .int p1)]) hx hb dX12_checkNeed_63 hl (by decide) rfl (fun ls hl => ?_)
        refine lv_aload_n hx hb dX12_checkNeed_65 rfl (lv_at hl 4 rfl) ?_
        refine va_get (D := D) (ci := 12) (v := .ref (ad 86)) (C := RX12) (T := TX12) (N := 100) hx hb hg inX12 hown hK hP 0 rfl rfl 86 (by decide) (hg _ w1792) (fun _ h9 => h9) rfl dX12_checkNeed_66 ?_
        refine lv_bipush (v := 8) hx hb dX12_checkNeed_69 (by decide) ?_
        refine lv_iload_n hx hb dX12_checkNeed_71 rfl (lv_at hl 5 rfl) ?_
        refine lv_imul hx hb dX12_checkNeed_72 ?_
        refine lv_topi (fun z302 ez302 => ?_)
        have hz302 : z302.toInt = 8 * p0.toInt := i_mul ez302 (by decide) rfl (by (first | exact om_9e4b7225c539 rg_p0.1 rg_p0.2 | omega))
        refine lv_iload_n hx hb dX12_checkNeed_73 rfl (lv_at hl 6 rfl) ?_
        refine lv_iadd hx hb dX12_checkNeed_74 ?_
        refine lv_topi (fun z303 ez303 => ?_)
        have hz303 : z303.toInt = z302.toInt + p1.toInt := i_add ez303 rfl rfl (by (first | exact om_9f730d8f8954 rg_p0.1 rg_p0.2 rg_p1.1 rg_p1.2 hz302 | omega))
        refine lv_iload hx hb dX12_checkNeed_75 (lv_at hl 1 rfl) ?_
        refine lv_if_ne (tgt := 85) hx hb dX12_checkNeed_77 (by decide) (fun _ => ?_) (fun q => absurd q (by decide))
        refine lv_iconst (v := 1) hx hb dX12_checkNeed_85 (by decide) ?_
        refine lv_goto (tgt := 90) hx hb dX12_checkNeed_86 (by decide) ?_
        refine va_zast (D := D) (i := z303) (x := 1) hx hb hK hP hD hS 62 61 rfl rfl (i_in (a := z303.toInt) rfl (by (first | exact om_acd96330a334 rg_p0.1 rg_p0.2 rg_p1.1 rg_p1.2 hz302 hz303 | omega))) dX12_checkNeed_90 (fun H locs hP hD hS => ?_)
        obtain ⟨V304, hV304⟩ : ∃ z, z = up2 V12 86 (Int32.toNatClampNeg z303) (vp_nar .boolean 1) := ⟨_, rfl⟩
        have hP : va_P D vwCl (mw ad kk ks.1 V304 L) H := by rw [hV304]; exact hP
        have hD : va_D A (mw ad kk ks.1 V304 L) := by rw [hV304]; exact hD
        have hMV304 : rgd bM V304 := hMV12.put hV304 (nar_b _)
        have agV304 : agr [(0, 81)] [80, 82, 83, 84, 86] V V304 := agV12.up hV304 rfl
        have kw9 : Int32.toNatClampNeg z303 = 8 * gc + gj := by have h9 := i_clamp (x := z303) rfl (by (first | exact om_f770854b4059 rg_p0.1 rg_p1.1 hz302 hz303 | omega)); (first | exact om_71ad80e3b9e8 pk pj hz302 hz303 h9 | omega)
        refine lv_iconst (v := 0) hx hb dX12_checkNeed_91 (by decide) ?_
        refine lv_istore (lv' := [(7, .int 0), (6, .int 0), (5, .int 1), (4, .int z8), (3, .int z7), (0, .ref (ad 0)), (1, .int p0), (2, .int p1)]) hx hb dX12_checkNeed_92 hl (by decide) rfl (fun ls hl => ?_)
        refine lv_iconst (v := 0) hx hb dX12_checkNeed_94 (by decide) ?_
        refine lv_istore (lv' := [(8, .int 0), (7, .int 0), (6, .int 0), (5, .int 1), (4, .int z8), (3, .int z7), (0, .ref (ad 0)), (1, .int p0), (2, .int p1)]) hx hb dX12_checkNeed_95 hl (by decide) rfl (fun ls hl => ?_)
        have lp307 : ∀ (fulp307 : Nat) (y305 : Int32) (y306 : Int32) (H : Heap) (locs : List Loc) (ls : Array Slot), 0 ≤ y305.toInt ∧ y305.toInt ≤ 24 → 0 ≤ y306.toInt ∧ y306.toInt ≤ 1 → y305.toInt ≤ z8.toInt → ((y306.toInt = 1 ∧ (gs.1 (301 + 32 * gc + 4 * gj)) ≠ 1 ∧ ∃ g, g ∈ (clF gs.1 gv (gs.2.1 2).length gc gj) ∧ shP gs.1 gc g = true) ∨ (y306.toInt = 0 ∧ ∀ i (h : i < (clF gs.1 gv (gs.2.1 2).length gc gj).length), i < y305.toInt.toNat → shP gs.1 gc (clF gs.1 gv (gs.2.1 2).length gc gj)[i] = false)) → z8.toInt - y305.toInt < (fulp307 : Int) → va_P D vwCl (mw ad kk ks.1 V304 L) H → va_D A (mw ad kk ks.1 V304 L) → va_S A s.heap H locs → lv_has ls 10 [(8, .int y305), (7, .int y306), (6, .int 0), (5, .int 1), (4, .int z8), (3, .int z7), (0, .ref (ad 0)), (1, .int p0), (2, .int p1)] → W p l e r_s_checkNeed6 s m ([.ref (ad 0), .int p0, .int p1] : List Value).toArray below meth c H locs 0 0 (MQ below (q_s_checkNeed6 D ks ad kk V L p0 p1 bq gs gc gj gv gF A) ([.ref (ad 0), .int p0, .int p1] : List Value).toArray s 0 0 A) (F0 m 97 ls []) := by
          intro fulp307
          induction fulp307 with
          | zero =>
            intro y305 y306 H locs ls klp307_0 klp307_1 xlp307_0 xlp307_1 hn  hP hD hS hl
            exfalso; (first | exact om_4634b1278845 xlp307_0 hn | omega)
          | succ fulp307 ihlp307 =>
            intro y305 y306 H locs ls klp307_0 klp307_1 xlp307_0 xlp307_1 hn  hP hD hS hl
            refine lv_iload hx hb dX12_checkNeed_97 (lv_at hl 0 rfl) ?_
            refine lv_iload hx hb dX12_checkNeed_99 (lv_at hl 4 rfl) ?_
            refine lv_icmp_ge (tgt := 184) hx hb dX12_checkNeed_101 (by decide) (fun c308 => ?_) (fun c308 => ?_)
            · skip
              have f309 : z8.toInt ≤ y305.toInt := b_le rfl rfl c308
              refine lv_iload hx hb dX12_checkNeed_184 (lv_at hl 3 rfl) ?_
              refine lv_if_ne (tgt := 199) hx hb dX12_checkNeed_186 (by decide) (fun _ => ?_) (fun q => absurd q (by decide))
              have ft310 : ftP gs.1 gv (gs.2.1 2).length gc gj = 1 := ft_1 (fun h9 => absurd (n30.mpr h9) (by omega)) (by omega)
              refine lv_aload_n hx hb dX12_checkNeed_199 rfl (lv_at hl 6 rfl) ?_
              refine lv_iload hx hb dX12_checkNeed_200 (lv_at hl 3 rfl) ?_
              refine lv_if_eq (tgt := 209) hx hb dX12_checkNeed_202 (by decide) (fun q => absurd q (by decide)) (fun _ => ?_)
              refine lv_iconst (v := 1) hx hb dX12_checkNeed_205 (by decide) ?_
              refine lv_goto (tgt := 219) hx hb dX12_checkNeed_206 (by decide) ?_
              refine lv_iload_n hx hb dX12_checkNeed_219 rfl (lv_at hl 7 rfl) ?_
              refine lv_iload_n hx hb dX12_checkNeed_220 rfl (lv_at hl 8 rfl) ?_
              have r311 : Int32.toInt 1 = 1 := by decide
              have pq312 : (V304 0 81).toInt = ((V 0 81)).toInt := congrArg Int32.toInt ((up2_o hV304 (by decide)).trans (ajV12 0 81 rfl))
              refine gA_void (gA_runV (As := [.int 1, .int p0, .int p1]) (rest := []) (ci := 12) (q0 := 0) hx hb hml hown hg hP hD hK hS hA hnw hgk (s_addFault6 l D ks H.size ad kk V304 L 1 p0 p1 (gF) (ftP gs.1 gv (gs.2.1 2).length gc gj) (gc) (gj) (fun _ => 0) hMV304 (by (first | exact om_b6da0344f992 rg_p1.1 rg_p1.2 | omega)) (show (V304 0 81).toInt ≤ 999999 from by (first | exact om_92a90bb16346 y2 pq312 | omega)) (show (Int32.toInt 1) = (((ftP gs.1 gv (gs.2.1 2).length gc gj) : Nat) : Int) from by (first | exact om_153aeb4c9666 ft310 r311 | omega)) (show p0.toInt = (((gc) : Nat) : Int) from by (first | exact om_08e0c9701055 pk | omega)) (show p1.toInt = (((gj) : Nat) : Int) from by (first | exact om_08e0c9701055 pj | omega)) (FLm.fo flq (congrFun (by rw [(up2_fo hV304 (by decide) : V304 0 = V12 0), (funext (fun q => ajV12 0 q rfl) : V12 0 = V 0)] : V304 0 = V 0) 81) (by rw [(up2_fo hV304 (by decide) : V304 82 = V12 82), (funext (fun q => ajV12 82 q rfl) : V12 82 = V 82)] : V304 82 = V 82) (by rw [(up2_fo hV304 (by decide) : V304 83 = V12 83), (funext (fun q => ajV12 83 q rfl) : V12 83 = V 83)] : V304 83 = V 83) (by rw [(up2_fo hV304 (by decide) : V304 84 = V12 84), (funext (fun q => ajV12 84 q rfl) : V12 84 = V 84)] : V304 84 = V 84) (by rw [(up2_fo hV304 (by decide) : V304 85 = V12 85), (funext (fun q => ajV12 85 q rfl) : V12 85 = V 85)] : V304 85 = V 85)) (fun h3 => absurd h3 ft_ne3) (fun h3 => absurd h3 ft_ne3)) w2183 w2185 w121 w172 w2186 rfl rfl hdV_yX12_addFault ⟨Nat.le_of_ble_eq_true rfl, Nat.le_of_ble_eq_true rfl⟩ rfl hl.1 rfl (Nat.le_of_ble_eq_true rfl) dX12_checkNeed_221 ⟨Nat.le_of_ble_eq_true rfl, Nat.le_of_ble_eq_true rfl⟩) hP hD hK hS hA (fun u314 H locs w315 hP hD hK hS => ?_)
              obtain ⟨V318, L319⟩ := u314
              obtain ⟨hMV318, ajV318, axL319, t316, t317⟩ := w315
              have axL319 : L = L319 := Eq.symm axL319
              subst axL319
              have hP : va_P D vwCl (mw ad kk ks.1 V318 L) H := hP
              have hD : va_D A (mw ad kk ks.1 V318 L) := hD
              have hMV318 : rgd bM V318 := hMV318
              have ajV318 : agr [(0, 81)] [82, 83, 84] V304 V318 := ajV318
              have agV318 : agr [(0, 81)] [80, 82, 83, 84, 86] V V318 := agV304.tr ajV318 (by decide) (by decide)
              have t316 : (V318 0 81).toInt = (V304 0 81).toInt + 1 := t316
              have t317 : FLm V318 (adF (gF) (ftP gs.1 gv (gs.2.1 2).length gc gj) (gc) (gj) (fun _ => 0)) := t317
              have r320 : 0 ≤ ((V318 0 81)).toInt ∧ ((V318 0 81)).toInt ≤ 1000000 := hMV318 0 81
              have wg321 : WRG (V318 86 (8 * gc + gj)) gs.1 gv (gs.2.1 2).length gc gj := Or.inl ⟨(by rw [← kw9, (by rw [(funext (fun q => ajV318 86 q rfl) : V318 86 = V304 86)] : V318 86 = V304 86), up2_s hV304]; decide), by omega⟩
              exact W.vret hx hb hr (fun t ht hW => ⟨⟨(V318, L), rfl, ⟨hMV318, agV318, rfl, (show (V318 0 81).toInt ≤ (V 0 81).toInt + 1 from by (first | exact om_4073e2f93091 pq312 t316 | omega)), (show (V 0 81).toInt ≤ (V318 0 81).toInt from by (first | exact om_7fa199aab32e pq312 t316 | omega)), (by rw [ndO_1 (by omega)]; exact t317), wg321, (fun q9 h9 => (congrFun (by rw [(funext (fun q => ajV318 86 q rfl) : V318 86 = V304 86)] : V318 86 = V304 86) q9).trans ((up2_k hV304 (by rw [kw9]; exact h9)).trans (congrFun (by rw [(funext (fun q => ajV12 86 q rfl) : V12 86 = V 86)] : V12 86 = V 86) q9)))⟩, by rw [ht]; exact hP, va_K.moved hW.alike hK, hD⟩, hS.F ht⟩) hS.2.2 dX12_checkNeed_224
            · skip
              have f322 : y305.toInt < z8.toInt := b_nle rfl rfl c308
              exfalso; (first | exact om_e5920f11f013 f264 klp307_0.1 f322 | omega)
        have r323 : Int32.toInt 0 = 0 := by decide
        have r324 : Int32.toInt 1 = 1 := by decide
        exact lp307 ((z8.toInt - (Int32.toInt 0) + 1 : Int).toNat) 0 0 H locs ls (by decide) (by decide) (show (Int32.toInt 0) ≤ z8.toInt from by (first | exact om_6f9bb8cf3bec rgz8.1 r323 | omega)) (Or.inr ⟨rfl, fun i _ h9 => absurd h9 (by rw [show (Int32.toInt 0).toNat = 0 from by decide]; exact Nat.not_lt_zero _)⟩) (by (first | exact om_7441a7786481 | omega)) hP hD hS (lv_sub hl [0, 1, 2, 3, 4, 5, 6, 7, 8] rfl)
      · skip
        have f325 : 1 < z8.toInt := b_nle rfl (by decide) c300
        exfalso; (first | exact om_d30a4a4dfd74 f264 f325 | omega)
end
section

abbrev q_x_follow5 (D : va_G) (ks : KS) (ad : Nat → Nat) (kk : Nat → ClassId) (V : Vf) (L : Lf) (Z : XZ) (p0 : Int32) (p1 : Int32) (b : Nat) (gs : St) (gk : Nat) (gv : Nat → Int) (gM : MSt) (gP : Nat → Nat) (dq : Nat) (A : Nat → Prop) : Array Value → State → Outcome → State → Prop := va_Qv (fun (u : Vf × Lf) => rgd bX u.1 ∧ agr [(2, 7)] [15, 16, 17, 18, 19, 20] V u.1 ∧ u.2 = L ∧ ((u.1 2 7).toInt + 192 * (cx u.1 24 : Int) ≤ (V 2 7).toInt + 192 * (cx V 24 : Int)) ∧ ((V 2 7).toInt ≤ (u.1 2 7).toInt) ∧ ((∀ q : Nat, (V 20 q).toInt ≠ -1 → (u.1 20 q).toInt ≠ -1)) ∧ (RFc u.1 (gs.2.1 2).length (VIS gs.1 gv (gs.2.1 2).length (24 - dq) dq gP gk gM) gP dq)) (fun u t => gq D A (xw ad kk u.1 u.2 Z) (xty kk Z) t) A
def K_x_follow5 (l : Launch) (D : va_G) (ks : KS) (dd : Nat) : Prop := ∀ (sz : Nat) (ad : Nat → Nat) (kk : Nat → ClassId) (V : Vf) (L : Lf) (Z : XZ) (p0 : Int32) (p1 : Int32) (b : Nat) (gs : St) (gk : Nat) (gv : Nat → Int) (gM : MSt) (gP : Nat → Nat) (dq : Nat) (hMV : rgd bX V) (rg_p0 : 0 ≤ p0.toInt ∧ p0.toInt ≤ 23) (rg_p1 : 0 ≤ p1.toInt ∧ p1.toInt ≤ 24) (hb2 : b < 2) (cbk : (V 2 6).toInt = (b : Int)) (y1 : (V 20 (Int32.toNatClampNeg p0)).toInt = -1) (y2 : 24 - p1.toInt ≤ (dd : Int)) (y3 : (V 2 7).toInt + 192 * (cx V 24 : Int) ≤ 999000) (pk : p0.toInt = ((gk : Nat) : Int)) (pp : p1.toInt = ((dq : Nat) : Int)) (coc : COc V b gs) (wh : WHs gs) (gkl : gk < (gs.2.1 2).length) (ln : (V 43 (5 * b + 2)).toInt = (((gs.2.1 2).length : Nat) : Int)) (ln2 : (gs.2.1 2).length ≤ 24) (hsv : svc V b (gs.2.1 1).length = gv) (rfq : RFc V (gs.2.1 2).length gM gP dq) , Met l yX2_follow (Cond.code yX2_follow cX2_follow 6 none :: GW) (rK 8 260 dd) (va_Pc [.ref (ad 2), .int p0, .int p1] (gp D ks (xw ad kk V L Z) (xty kk Z) sz)) (q_x_follow5 D ks ad kk V L Z p0 p1 b gs gk gv gM gP dq (va_A (xw ad kk V L Z) sz)) 0 0 (va_A (xw ad kk V L Z) sz)
set_option maxHeartbeats 4000000 in
set_option maxRecDepth 100000 in
theorem x_follow5 {l : Launch} {D : va_G} {ks : KS} {dd : Nat} (hk_x_follow5 : ∀ d9, dd = d9 + 1 → K_x_follow5 l D ks d9) : K_x_follow5 l D ks dd := by
  intro sz ad kk V L Z p0 p1 b gs gk gv gM gP dq hMV rg_p0 rg_p1 hb2 cbk y1 y2 y3 pk pp coc wh gkl ln ln2 hsv rfq
  refine g_met (q_x_follow5 D ks ad kk V L Z p0 p1 b gs gk gv gM gP dq) (by decide) (Nat.le_of_ble_eq_true rfl) ?_
  intro p e s m below meth c A ls H locs hx hb hr hml hown hg hlocks hin hnw hgk hP hK hD hS hA hl
  have hown : s.vm.findClass RX2 = some m.cls := hown
  have hl : lv_has ls 6 [(0, .ref (ad 2)), (1, .int p0), (2, .int p1)] := hl
  have hP : va_P D vwCl (xw ad kk V L Z) H := hP
  have hD : va_D A (xw ad kk V L Z) := hD
  have hK : va_K D vwCl (xty kk Z) s := hK
  have agV : agr [(2, 7)] [15, 16, 17, 18, 19, 20] V V := agr.rf
  have r1 : (-1) ≤ ((V 2 6)).toInt ∧ ((V 2 6)).toInt ≤ 1 := hMV 2 6
  have r2 : (-2) ≤ ((V 20 (Int32.toNatClampNeg p0))).toInt ∧ ((V 20 (Int32.toNatClampNeg p0))).toInt ≤ 23 := hMV 20 (Int32.toNatClampNeg p0)
  have r3 : 0 ≤ ((V 2 7)).toInt ∧ ((V 2 7)).toInt ≤ 1000000 := hMV 2 7
  have r4 : 0 ≤ ((V 43 (5 * b + 2))).toInt ∧ ((V 43 (5 * b + 2))).toInt ≤ ((xcap (5 * b + 2) : Nat) : Int) := hMV 43 (5 * b + 2)
  have r5 : xcap (5 * b + 2) = 24 := xcap_2
  have kc0 : Int32.toNatClampNeg p0 = gk := by have h9 := i_clamp (x := p0) rfl (by (first | exact om_c441fb90eac3 pk | omega)); (first | exact om_c4e1e142d663 pk h9 | omega)
  have h49 : (V 49 (24 * b + (Int32.toNatClampNeg p0))).toInt = ((gs.1 (66 + 8 * gk) : Nat) : Int) := by rw [kc0]; exact (coc gk gkl).2.1
  have g08 := (coc gk gkl).2.2.1
  have mk0 : gM.1 gk = 0 := by have h9 := rfq.2.1 gk gkl; rw [← kc0] at h9 ⊢; unfold MKc at h9; omega
  refine lv_iload_n hx hb dX2_follow_0 rfl (lv_at hl 2 rfl) ?_
  refine lv_bipush (v := 24) hx hb dX2_follow_1 (by decide) ?_
  refine lv_icmp_lt (tgt := 7) hx hb dX2_follow_3 (by decide) (fun c6 => ?_) (fun c6 => ?_)
  · skip
    have f7 : p1.toInt < 24 := b_lt rfl (by decide) c6
    refine lv_aload_n hx hb dX2_follow_7 rfl (lv_at hl 0 rfl) ?_
    refine va_get (D := D) (ci := 2) (v := .ref (ad 16)) (fs := (xfChecker ad V L Z)) (C := RX2) (T := TX2) (N := 8) hx hb hg inX2 hown hK hP 2 xgChecker rfl 4 (by decide) (hg _ w342) (fun _ h9 => h9) rfl dX2_follow_8 ?_
    refine lv_iload_n hx hb dX2_follow_11 rfl (lv_at hl 2 rfl) ?_
    refine lv_iload_n hx hb dX2_follow_12 rfl (lv_at hl 1 rfl) ?_
    refine va_iast (D := D) (i := p1) (x := p0) hx hb hK hP hD hS 16 9 rfl rfl (i_in (a := p1.toInt) rfl (by first | exact om_41ae856fa52f rg_p1.1 f7 | first | omega | ((try (have i_rfq := Imp.go rfq (by omega))); (try (have i_hsv := Imp.go hsv (by omega))); (try (have i_gkl := Imp.go gkl (by omega))); (try (have i_wh := Imp.go wh (by omega))); first | omega | ((try (have i_coc := Imp.go coc (by omega))); (try (have i_coc := Imp.go coc (by omega))); (try (have i_wh := Imp.go wh (by omega))); (try (have i_gkl := Imp.go gkl (by omega))); (try (have i_hsv := Imp.go hsv (by omega))); (try (have i_rfq := Imp.go rfq (by omega))); omega)))) dX2_follow_13 (fun H locs hP hD hS => ?_)
    obtain ⟨V8, hV8⟩ : ∃ z, z = up2 V 19 (Int32.toNatClampNeg p1) p0 := ⟨_, rfl⟩
    have ew9 : (xw ad kk V L Z).set 16 ((ad 16), .inl ((kk 16), 24, .inl (upd (V 19) (Int32.toNatClampNeg p1) p0))) = xw ad kk V8 L Z := by rw [hV8]; exact xw_ss (by decide) rfl (xb_si (by decide))
    have hP : va_P D vwCl (xw ad kk V8 L Z) H := by rw [← ew9]; exact hP
    have hD : va_D A (xw ad kk V8 L Z) := by rw [← ew9]; exact hD
    have hMV8 : rgd bX V8 := hMV.put hV8 (show 0 ≤ p0.toInt ∧ p0.toInt ≤ 23 from by first | exact om_b2cf528f38f4 rg_p0.2 pk | first | omega | ((try (have i_rfq := Imp.go rfq (by omega))); (try (have i_hsv := Imp.go hsv (by omega))); (try (have i_gkl := Imp.go gkl (by omega))); (try (have i_wh := Imp.go wh (by omega))); first | omega | ((try (have i_coc := Imp.go coc (by omega))); (try (have i_coc := Imp.go coc (by omega))); (try (have i_wh := Imp.go wh (by omega))); (try (have i_gkl := Imp.go gkl (by omega))); (try (have i_hsv := Imp.go hsv (by omega))); (try (have i_rfq := Imp.go rfq (by omega))); omega)))
    have agV8 : agr [(2, 7)] [15, 16, 17, 18, 19, 20] V V8 := agV.up hV8 rfl
    refine lv_aload_n hx hb dX2_follow_14 rfl (lv_at hl 0 rfl) ?_
    refine va_get (D := D) (ci := 2) (v := .ref (ad 17)) (fs := (xfChecker ad V8 L Z)) (C := RX2) (T := TX2) (N := 8) hx hb hg inX2 hown hK hP 2 xgChecker rfl 5 (by decide) (hg _ w343) (fun _ h9 => h9) rfl dX2_follow_15 ?_
    refine lv_iload_n hx hb dX2_follow_18 rfl (lv_at hl 1 rfl) ?_
    refine lv_iload_n hx hb dX2_follow_19 rfl (lv_at hl 2 rfl) ?_
    refine va_iast (D := D) (i := p0) (x := p1) hx hb hK hP hD hS 17 10 rfl rfl (i_in (a := p0.toInt) rfl (by first | exact om_ddec85ab1900 rg_p0.2 pk | first | omega | ((try (have i_rfq := Imp.go rfq (by omega))); (try (have i_hsv := Imp.go hsv (by omega))); (try (have i_gkl := Imp.go gkl (by omega))); (try (have i_wh := Imp.go wh (by omega))); first | omega | ((try (have i_coc := Imp.go coc (by omega))); (try (have i_coc := Imp.go coc (by omega))); (try (have i_wh := Imp.go wh (by omega))); (try (have i_gkl := Imp.go gkl (by omega))); (try (have i_hsv := Imp.go hsv (by omega))); (try (have i_rfq := Imp.go rfq (by omega))); omega)))) dX2_follow_20 (fun H locs hP hD hS => ?_)
    obtain ⟨V10, hV10⟩ : ∃ z, z = up2 V8 20 (Int32.toNatClampNeg p0) p1 := ⟨_, rfl⟩
    have ew11 : (xw ad kk V8 L Z).set 17 ((ad 17), .inl ((kk 17), 24, .inl (upd (V8 20) (Int32.toNatClampNeg p0) p1))) = xw ad kk V10 L Z := by rw [hV10]; exact xw_ss (by decide) rfl (xb_si (by decide))
    have hP : va_P D vwCl (xw ad kk V10 L Z) H := by rw [← ew11]; exact hP
    have hD : va_D A (xw ad kk V10 L Z) := by rw [← ew11]; exact hD
    have hMV10 : rgd bX V10 := hMV8.put hV10 (show (-2) ≤ p1.toInt ∧ p1.toInt ≤ 23 from by first | exact om_3a40a9f22a90 rg_p1.1 f7 | first | omega | ((try (have i_rfq := Imp.go rfq (by omega))); (try (have i_hsv := Imp.go hsv (by omega))); (try (have i_gkl := Imp.go gkl (by omega))); (try (have i_wh := Imp.go wh (by omega))); first | omega | ((try (have i_coc := Imp.go coc (by omega))); (try (have i_coc := Imp.go coc (by omega))); (try (have i_wh := Imp.go wh (by omega))); (try (have i_gkl := Imp.go gkl (by omega))); (try (have i_hsv := Imp.go hsv (by omega))); (try (have i_rfq := Imp.go rfq (by omega))); omega)))
    have agV10 : agr [(2, 7)] [15, 16, 17, 18, 19, 20] V V10 := agV8.up hV10 rfl
    have kz := i_clamp (x := p0) rfl (by (first | exact om_c441fb90eac3 pk | omega))
    have cq12 : cx V8 24 = cx V 24 := cx_ag (show agr [] [19] V V8 from (agr.up agr.rf hV8 rfl)) (fun _ => rfl) 24
    have pq13 : (V8 20 (Int32.toNatClampNeg p0)).toInt = ((V 20 (Int32.toNatClampNeg p0))).toInt := congrArg Int32.toInt (up2_o hV8 (by decide))
    have cu := (cx_up hV10 (by (first | exact om_489e76f0c04e y1 pq13 | omega)) (by (first | exact om_b308bcc79c23 rg_p1.1 | omega)) 24).1 (by omega)
    have rf0 : RFc V10 (gs.2.1 2).length (upn gM.1 gk (2 + dq), gM.2) (upn gP dq gk) (dq + 1) := RFc.en rfq hV8 hV10 (by have h9 := i_clamp (x := p1) rfl (by (first | exact om_eafa9039069c rg_p1.1 | omega)); (first | exact om_c4e1e142d663 pp h9 | omega)) (by (first | exact om_08e0c9701055 pk | omega)) (by have h9 := i_clamp (x := p0) rfl (by (first | exact om_c441fb90eac3 pk | omega)); (first | exact om_890eb046e93a kc0 | omega)) (by (first | exact om_08e0c9701055 pp | omega)) mk0
    refine lv_iconst (v := 0) hx hb dX2_follow_21 (by decide) ?_
    refine lv_istore_n (lv' := [(3, .int 0), (0, .ref (ad 2)), (1, .int p0), (2, .int p1)]) hx hb dX2_follow_22 rfl hl (by decide) rfl (fun ls hl => ?_)
    have lp16 : ∀ (fulp16 : Nat) (y14 : Int32) (V15 : Vf) (H : Heap) (locs : List Loc) (ls : Array Slot), 0 ≤ y14.toInt ∧ y14.toInt ≤ 8 → (V15 2 7).toInt + 192 * (cx V15 24 : Int) + 192 ≤ (V 2 7).toInt + 192 * (cx V 24 : Int) + 24 * y14.toInt → (V 2 7).toInt ≤ (V15 2 7).toInt → (∀ q : Nat, (V 20 q).toInt ≠ -1 → (V15 20 q).toInt ≠ -1) → (V15 20 (Int32.toNatClampNeg p0)).toInt ≠ -1 → (RFc V15 (gs.2.1 2).length (VFO gs.1 gv (gs.2.1 2).length (24 - (dq + 1)) dq gP gk gM (edJ gs.1 gv (gs.2.1 2).length gk y14.toInt.toNat)) (upn gP dq gk) (dq + 1)) → y14.toInt ≤ ((gs.1 (66 + 8 * gk) : Nat) : Int) → 8 - y14.toInt < (fulp16 : Int) → agr [(2, 7)] [15, 16, 17, 18, 19, 20] V10 V15 → rgd bX V15 → va_P D vwCl (xw ad kk V15 L Z) H → va_D A (xw ad kk V15 L Z) → va_S A s.heap H locs → lv_has ls 6 [(3, .int y14), (0, .ref (ad 2)), (1, .int p0), (2, .int p1)] → W p l e (rK 8 260 dd) s m ([.ref (ad 2), .int p0, .int p1] : List Value).toArray below meth c H locs 0 0 (MQ below (q_x_follow5 D ks ad kk V L Z p0 p1 b gs gk gv gM gP dq A) ([.ref (ad 2), .int p0, .int p1] : List Value).toArray s 0 0 A) (F0 m 23 ls []) := by
      intro fulp16
      induction fulp16 with
      | zero =>
        intro y14 V15 H locs ls klp16_0 xlp16_0 xlp16_1 xlp16_2 xlp16_3 xlp16_4 xlp16_5 hn ajV15 hMV15 hP hD hS hl
        exfalso; (first | exact om_e2d570575604 klp16_0.2 hn | omega)
      | succ fulp16 ihlp16 =>
        intro y14 V15 H locs ls klp16_0 xlp16_0 xlp16_1 xlp16_2 xlp16_3 xlp16_4 xlp16_5 hn ajV15 hMV15 hP hD hS hl
        have agV15 : agr [(2, 7)] [15, 16, 17, 18, 19, 20] V V15 := agV10.tr ajV15 (by decide) (by decide)
        have r17 : 0 ≤ ((V15 2 7)).toInt ∧ ((V15 2 7)).toInt ≤ 1000000 := hMV15 2 7
        refine lv_iload_n hx hb dX2_follow_23 rfl (lv_at hl 0 rfl) ?_
        refine lv_aload_n hx hb dX2_follow_24 rfl (lv_at hl 1 rfl) ?_
        refine va_get (D := D) (ci := 2) (v := rfN ad 38 (V15 2 6)) (fs := (xfChecker ad V15 L Z)) (C := RX2) (T := TX2) (N := 8) hx hb hg inX2 hown hK hP 2 xgChecker rfl 6 (by decide) (hg _ w344) (fun _ h9 => h9) rfl dX2_follow_25 ?_
        have pq18 : (V15 2 6).toInt = ((V 2 6)).toInt := congrArg Int32.toInt ((ajV15 2 6 rfl).trans ((up2_o hV10 (by decide)).trans (up2_o hV8 (by decide))))
        refine g_topv (v := .ref (ad (38 + b))) (rfN_r (by first | omega | ((try (have i_rfq := Imp.go rfq (by omega))); (try (have i_hsv := Imp.go hsv (by omega))); (try (have i_gkl := Imp.go gkl (by omega))); (try (have i_wh := Imp.go wh (by omega))); first | omega | ((try (have i_coc := Imp.go coc (by omega))); (try (have i_coc := Imp.go coc (by omega))); (try (have i_wh := Imp.go wh (by omega))); (try (have i_gkl := Imp.go gkl (by omega))); (try (have i_hsv := Imp.go hsv (by omega))); (try (have i_rfq := Imp.go rfq (by omega))); omega)))) ?_
        refine va_getN (D := D) (ci := 0) (v := .ref (ad (64 + b))) (fs := (xfBook ad V15 b)) (C := RX0) (T := TX0) (N := 13) hx hb hg inX0 hown hK hP (38 + b) (xgBook hb2) rfl 7 (by decide) (hnw.use 615 n615 rfl) (fun _ h9 => h9) rfl dX2_follow_28 ?_
        refine lv_iload_n hx hb dX2_follow_31 rfl (lv_at hl 2 rfl) ?_
        have il19 : b < 2 := by first | exact om_f940a4667dd6 hb2 | first | omega | ((try (have i_rfq := Imp.go rfq (by omega))); (try (have i_hsv := Imp.go hsv (by omega))); (try (have i_gkl := Imp.go gkl (by omega))); (try (have i_wh := Imp.go wh (by omega))); first | omega | ((try (have i_coc := Imp.go coc (by omega))); (try (have i_coc := Imp.go coc (by omega))); (try (have i_wh := Imp.go wh (by omega))); (try (have i_gkl := Imp.go gkl (by omega))); (try (have i_hsv := Imp.go hsv (by omega))); (try (have i_rfq := Imp.go rfq (by omega))); omega))
        refine va_aldq (D := D) (i := p0) hx hb hK hP (64 + b) (57 + b) (xgcomps il19) (xtcomps il19) (i_in (a := p0.toInt) rfl (by first | exact om_ddec85ab1900 rg_p0.2 pk | first | omega | ((try (have i_rfq := Imp.go rfq (by omega))); (try (have i_hsv := Imp.go hsv (by omega))); (try (have i_gkl := Imp.go gkl (by omega))); (try (have i_wh := Imp.go wh (by omega))); first | omega | ((try (have i_coc := Imp.go coc (by omega))); (try (have i_coc := Imp.go coc (by omega))); (try (have i_wh := Imp.go wh (by omega))); (try (have i_gkl := Imp.go gkl (by omega))); (try (have i_hsv := Imp.go hsv (by omega))); (try (have i_rfq := Imp.go rfq (by omega))); omega)))) dX2_follow_32 ?_
        have kc20 := i_clamp (x := p0) rfl (by first | exact om_c441fb90eac3 pk | first | omega | ((try (have i_rfq := Imp.go rfq (by omega))); (try (have i_hsv := Imp.go hsv (by omega))); (try (have i_gkl := Imp.go gkl (by omega))); (try (have i_wh := Imp.go wh (by omega))); first | omega | ((try (have i_coc := Imp.go coc (by omega))); (try (have i_coc := Imp.go coc (by omega))); (try (have i_wh := Imp.go wh (by omega))); (try (have i_gkl := Imp.go gkl (by omega))); (try (have i_hsv := Imp.go hsv (by omega))); (try (have i_rfq := Imp.go rfq (by omega))); omega)))
        refine g_topv (v := .ref (ad (72 + (24 * b + (Int32.toNatClampNeg p0))))) (congrArg va_rf (if_pos (by first | omega | ((try (have i_rfq := Imp.go rfq (by omega))); (try (have i_hsv := Imp.go hsv (by omega))); (try (have i_gkl := Imp.go gkl (by omega))); (try (have i_wh := Imp.go wh (by omega))); first | omega | ((try (have i_coc := Imp.go coc (by omega))); (try (have i_coc := Imp.go coc (by omega))); (try (have i_wh := Imp.go wh (by omega))); (try (have i_gkl := Imp.go gkl (by omega))); (try (have i_hsv := Imp.go hsv (by omega))); (try (have i_rfq := Imp.go rfq (by omega))); omega))))) ?_
        have il21 : (24 * b + (Int32.toNatClampNeg p0)) < 48 := by first | exact om_6c55e7c13eef rg_p0.2 hb2 pk kc0 | first | omega | ((try (have i_rfq := Imp.go rfq (by omega))); (try (have i_hsv := Imp.go hsv (by omega))); (try (have i_gkl := Imp.go gkl (by omega))); (try (have i_wh := Imp.go wh (by omega))); first | omega | ((try (have i_coc := Imp.go coc (by omega))); (try (have i_coc := Imp.go coc (by omega))); (try (have i_wh := Imp.go wh (by omega))); (try (have i_gkl := Imp.go gkl (by omega))); (try (have i_hsv := Imp.go hsv (by omega))); (try (have i_rfq := Imp.go rfq (by omega))); omega))
        refine va_getN (D := D) (ci := 3) (v := .int (V15 49 (24 * b + (Int32.toNatClampNeg p0)))) (fs := (xfComp ad V15 (24 * b + (Int32.toNatClampNeg p0)))) (C := RX3) (T := TX3) (N := 13) hx hb hg inX3 hown hK hP (72 + (24 * b + (Int32.toNatClampNeg p0))) (xgComp il21) rfl 4 (by decide) (hnw.use 511 n511 rfl) (fun _ h9 => h9) rfl dX2_follow_33 ?_
        refine g_top (v := (V 49 (24 * b + (Int32.toNatClampNeg p0)))) ((ajV15 49 (24 * b + (Int32.toNatClampNeg p0)) rfl).trans ((up2_o hV10 (by decide)).trans (up2_o hV8 (by decide)))) ?_
        have r22 : 0 ≤ ((V 49 (24 * b + (Int32.toNatClampNeg p0)))).toInt ∧ ((V 49 (24 * b + (Int32.toNatClampNeg p0)))).toInt ≤ 8 := hMV 49 (24 * b + (Int32.toNatClampNeg p0))
        refine lv_icmp_ge (tgt := 159) hx hb dX2_follow_36 (by decide) (fun c23 => ?_) (fun c23 => ?_)
        · skip
          have f24 : ((V 49 (24 * b + (Int32.toNatClampNeg p0)))).toInt ≤ y14.toInt := b_le rfl rfl c23
          refine lv_aload_n hx hb dX2_follow_159 rfl (lv_at hl 1 rfl) ?_
          refine va_get (D := D) (ci := 2) (v := .ref (ad 17)) (fs := (xfChecker ad V15 L Z)) (C := RX2) (T := TX2) (N := 8) hx hb hg inX2 hown hK hP 2 xgChecker rfl 5 (by decide) (hg _ w343) (fun _ h9 => h9) rfl dX2_follow_160 ?_
          refine lv_iload_n hx hb dX2_follow_163 rfl (lv_at hl 2 rfl) ?_
          refine lv_bipush (v := (-2)) hx hb dX2_follow_164 (by decide) ?_
          refine va_iast (D := D) (i := p0) (x := (-2)) hx hb hK hP hD hS 17 10 rfl rfl (i_in (a := p0.toInt) rfl (by first | exact om_ddec85ab1900 rg_p0.2 pk | first | omega | ((try (have i_rfq := Imp.go rfq (by omega))); (try (have i_hsv := Imp.go hsv (by omega))); (try (have i_gkl := Imp.go gkl (by omega))); (try (have i_wh := Imp.go wh (by omega))); first | omega | ((try (have i_coc := Imp.go coc (by omega))); (try (have i_coc := Imp.go coc (by omega))); (try (have i_wh := Imp.go wh (by omega))); (try (have i_gkl := Imp.go gkl (by omega))); (try (have i_hsv := Imp.go hsv (by omega))); (try (have i_rfq := Imp.go rfq (by omega))); omega)))) dX2_follow_166 (fun H locs hP hD hS => ?_)
          obtain ⟨V25, hV25⟩ : ∃ z, z = up2 V15 20 (Int32.toNatClampNeg p0) (-2) := ⟨_, rfl⟩
          have ew26 : (xw ad kk V15 L Z).set 17 ((ad 17), .inl ((kk 17), 24, .inl (upd (V15 20) (Int32.toNatClampNeg p0) (-2)))) = xw ad kk V25 L Z := by rw [hV25]; exact xw_ss (by decide) rfl (xb_si (by decide))
          have hP : va_P D vwCl (xw ad kk V25 L Z) H := by rw [← ew26]; exact hP
          have hD : va_D A (xw ad kk V25 L Z) := by rw [← ew26]; exact hD
          have hMV25 : rgd bX V25 := hMV15.put hV25 (show (-2) ≤ Int32.toInt (-2) ∧ Int32.toInt (-2) ≤ 23 from by decide)
          have agV25 : agr [(2, 7)] [15, 16, 17, 18, 19, 20] V V25 := agV15.up hV25 rfl
          have r27 : (-2) ≤ ((V15 20 (Int32.toNatClampNeg p0))).toInt ∧ ((V15 20 (Int32.toNatClampNeg p0))).toInt ≤ 23 := hMV15 20 (Int32.toNatClampNeg p0)
          have m2 : Int32.toInt (-2) = -2 := by decide
          have cl := cx_lo hV25 (by omega) (by (first | exact om_534e4c3bb048 m2 | omega)) 24
          have pq28 : (V25 2 7).toInt = ((V15 2 7)).toInt := congrArg Int32.toInt (up2_o hV25 (by decide))
          have rp29 : ∀ q : Nat, (V 20 q).toInt ≠ -1 → (V25 20 q).toInt ≠ -1 := (fun q hq => by rcases Decidable.em (q = (Int32.toNatClampNeg p0)) with h9 | h9; (rw [h9, up2_s hV25]; omega); (rw [up2_k hV25 h9]; exact xlp16_2 q hq))
          exact W.vret hx hb hr (fun t ht hW => ⟨⟨(V25, L), rfl, ⟨hMV25, agV25, rfl, (show (V25 2 7).toInt + 192 * (cx V25 24 : Int) ≤ (V 2 7).toInt + 192 * (cx V 24 : Int) from by first | exact om_86c28b647189 klp16_0.2 xlp16_0 cl pq28 | first | omega | ((try (have i_rfq := Imp.go rfq (by omega))); (try (have i_hsv := Imp.go hsv (by omega))); (try (have i_gkl := Imp.go gkl (by omega))); (try (have i_wh := Imp.go wh (by omega))); first | omega | ((try (have i_coc := Imp.go coc (by omega))); (try (have i_coc := Imp.go coc (by omega))); (try (have i_wh := Imp.go wh (by omega))); (try (have i_gkl := Imp.go gkl (by omega))); (try (have i_hsv := Imp.go hsv (by omega))); (try (have i_rfq := Imp.go rfq (by omega))); omega))), (show (V 2 7).toInt ≤ (V25 2 7).toInt from by first | exact om_a40cdd94799e xlp16_1 pq28 | first | omega | ((try (have i_rfq := Imp.go rfq (by omega))); (try (have i_hsv := Imp.go hsv (by omega))); (try (have i_gkl := Imp.go gkl (by omega))); (try (have i_wh := Imp.go wh (by omega))); first | omega | ((try (have i_coc := Imp.go coc (by omega))); (try (have i_coc := Imp.go coc (by omega))); (try (have i_wh := Imp.go wh (by omega))); (try (have i_gkl := Imp.go gkl (by omega))); (try (have i_hsv := Imp.go hsv (by omega))); (try (have i_rfq := Imp.go rfq (by omega))); omega))), rp29, (by rw [show 24 - dq = 24 - (dq + 1) + 1 from by omega, VIS_e]; exact RFc.lv (by have h9 := xlp16_4; rw [show y14.toInt.toNat = gs.1 (66 + 8 * gk) from by omega] at h9; exact h9) hV25 (by omega) (by decide))⟩, by rw [ht]; exact hP, va_K.moved hW.alike hK, hD⟩, hS.F ht⟩) hS.2.2 dX2_follow_167
        · skip
          have f30 : y14.toInt < ((V 49 (24 * b + (Int32.toNatClampNeg p0)))).toInt := b_nle rfl rfl c23
          have kj9 := i_clamp (x := y14) rfl (by (first | exact om_eafa9039069c klp16_0.1 | omega))
          have jl9 : (Int32.toNatClampNeg y14) < gs.1 (66 + 8 * gk) := by omega
          have n60 := ((coc gk gkl).2.2.2 (Int32.toNatClampNeg y14) jl9).2.1
          rw [show 8 * (24 * b + gk) + (Int32.toNatClampNeg y14) = 8 * (24 * b + (Int32.toNatClampNeg p0)) + (Int32.toNatClampNeg y14) from by rw [kc0]] at n60
          refine lv_aload_n hx hb dX2_follow_39 rfl (lv_at hl 1 rfl) ?_
          refine va_get (D := D) (ci := 2) (v := rfN ad 38 (V15 2 6)) (fs := (xfChecker ad V15 L Z)) (C := RX2) (T := TX2) (N := 8) hx hb hg inX2 hown hK hP 2 xgChecker rfl 6 (by decide) (hg _ w344) (fun _ h9 => h9) rfl dX2_follow_40 ?_
          refine g_topv (v := .ref (ad (38 + b))) (rfN_r (by first | omega | ((try (have i_rfq := Imp.go rfq (by omega))); (try (have i_hsv := Imp.go hsv (by omega))); (try (have i_gkl := Imp.go gkl (by omega))); (try (have i_wh := Imp.go wh (by omega))); first | omega | ((try (have i_coc := Imp.go coc (by omega))); (try (have i_coc := Imp.go coc (by omega))); (try (have i_wh := Imp.go wh (by omega))); (try (have i_gkl := Imp.go gkl (by omega))); (try (have i_hsv := Imp.go hsv (by omega))); (try (have i_rfq := Imp.go rfq (by omega))); omega)))) ?_
          refine va_getN (D := D) (ci := 0) (v := .ref (ad (64 + b))) (fs := (xfBook ad V15 b)) (C := RX0) (T := TX0) (N := 13) hx hb hg inX0 hown hK hP (38 + b) (xgBook hb2) rfl 7 (by decide) (hnw.use 615 n615 rfl) (fun _ h9 => h9) rfl dX2_follow_43 ?_
          refine lv_iload_n hx hb dX2_follow_46 rfl (lv_at hl 2 rfl) ?_
          refine va_aldq (D := D) (i := p0) hx hb hK hP (64 + b) (57 + b) (xgcomps il19) (xtcomps il19) (i_in (a := p0.toInt) rfl (by first | exact om_ddec85ab1900 rg_p0.2 pk | first | omega | ((try (have i_rfq := Imp.go rfq (by omega))); (try (have i_hsv := Imp.go hsv (by omega))); (try (have i_gkl := Imp.go gkl (by omega))); (try (have i_wh := Imp.go wh (by omega))); first | omega | ((try (have i_coc := Imp.go coc (by omega))); (try (have i_coc := Imp.go coc (by omega))); (try (have i_wh := Imp.go wh (by omega))); (try (have i_gkl := Imp.go gkl (by omega))); (try (have i_hsv := Imp.go hsv (by omega))); (try (have i_rfq := Imp.go rfq (by omega))); omega)))) dX2_follow_47 ?_
          refine g_topv (v := .ref (ad (72 + (24 * b + (Int32.toNatClampNeg p0))))) (congrArg va_rf (if_pos (by first | omega | ((try (have i_rfq := Imp.go rfq (by omega))); (try (have i_hsv := Imp.go hsv (by omega))); (try (have i_gkl := Imp.go gkl (by omega))); (try (have i_wh := Imp.go wh (by omega))); first | omega | ((try (have i_coc := Imp.go coc (by omega))); (try (have i_coc := Imp.go coc (by omega))); (try (have i_wh := Imp.go wh (by omega))); (try (have i_gkl := Imp.go gkl (by omega))); (try (have i_hsv := Imp.go hsv (by omega))); (try (have i_rfq := Imp.go rfq (by omega))); omega))))) ?_
          refine va_getN (D := D) (ci := 3) (v := .ref (ad (216 + (24 * b + (Int32.toNatClampNeg p0))))) (fs := (xfComp ad V15 (24 * b + (Int32.toNatClampNeg p0)))) (C := RX3) (T := TX3) (N := 13) hx hb hg inX3 hown hK hP (72 + (24 * b + (Int32.toNatClampNeg p0))) (xgComp il21) rfl 2 (by decide) (hnw.use 504 n504 rfl) (fun _ h9 => h9) rfl dX2_follow_48 ?_
          refine lv_iload_n hx hb dX2_follow_51 rfl (lv_at hl 0 rfl) ?_
          have il31 : (24 * b + (Int32.toNatClampNeg p0)) < 48 := by first | exact om_6c55e7c13eef rg_p0.2 hb2 pk kc0 | first | omega | ((try (have i_rfq := Imp.go rfq (by omega))); (try (have i_hsv := Imp.go hsv (by omega))); (try (have i_gkl := Imp.go gkl (by omega))); (try (have i_wh := Imp.go wh (by omega))); first | omega | ((try (have i_coc := Imp.go coc (by omega))); (try (have i_coc := Imp.go coc (by omega))); (try (have i_wh := Imp.go wh (by omega))); (try (have i_gkl := Imp.go gkl (by omega))); (try (have i_hsv := Imp.go hsv (by omega))); (try (have i_rfq := Imp.go rfq (by omega))); omega))
          refine va_iald (D := D) (i := y14) hx hb hK hP (216 + (24 * b + (Int32.toNatClampNeg p0))) (209 + (24 * b + (Int32.toNatClampNeg p0))) (xgneedKinds il31) (xtneedKinds il31) (i_in (a := y14.toInt) rfl (by first | omega | ((try (have i_rfq := Imp.go rfq (by omega))); (try (have i_hsv := Imp.go hsv (by omega))); (try (have i_gkl := Imp.go gkl (by omega))); (try (have i_wh := Imp.go wh (by omega))); first | omega | ((try (have i_coc := Imp.go coc (by omega))); (try (have i_coc := Imp.go coc (by omega))); (try (have i_wh := Imp.go wh (by omega))); (try (have i_gkl := Imp.go gkl (by omega))); (try (have i_hsv := Imp.go hsv (by omega))); (try (have i_rfq := Imp.go rfq (by omega))); omega)))) dX2_follow_52 ?_
          have kc32 := i_clamp (x := y14) rfl (by first | exact om_eafa9039069c klp16_0.1 | first | omega | ((try (have i_rfq := Imp.go rfq (by omega))); (try (have i_hsv := Imp.go hsv (by omega))); (try (have i_gkl := Imp.go gkl (by omega))); (try (have i_wh := Imp.go wh (by omega))); first | omega | ((try (have i_coc := Imp.go coc (by omega))); (try (have i_coc := Imp.go coc (by omega))); (try (have i_wh := Imp.go wh (by omega))); (try (have i_gkl := Imp.go gkl (by omega))); (try (have i_hsv := Imp.go hsv (by omega))); (try (have i_rfq := Imp.go rfq (by omega))); omega)))
          refine g_top (v := V15 60 (8 * (24 * b + (Int32.toNatClampNeg p0)) + (Int32.toNatClampNeg y14))) (if_pos (by first | omega | ((try (have i_rfq := Imp.go rfq (by omega))); (try (have i_hsv := Imp.go hsv (by omega))); (try (have i_gkl := Imp.go gkl (by omega))); (try (have i_wh := Imp.go wh (by omega))); first | omega | ((try (have i_coc := Imp.go coc (by omega))); (try (have i_coc := Imp.go coc (by omega))); (try (have i_wh := Imp.go wh (by omega))); (try (have i_gkl := Imp.go gkl (by omega))); (try (have i_hsv := Imp.go hsv (by omega))); (try (have i_rfq := Imp.go rfq (by omega))); omega)))) ?_
          refine g_top (v := (V 60 (8 * (24 * b + (Int32.toNatClampNeg p0)) + (Int32.toNatClampNeg y14)))) ((ajV15 60 (8 * (24 * b + (Int32.toNatClampNeg p0)) + (Int32.toNatClampNeg y14)) rfl).trans ((up2_o hV10 (by decide)).trans (up2_o hV8 (by decide)))) ?_
          refine lv_iconst (v := 1) hx hb dX2_follow_53 (by decide) ?_
          refine lv_icmp_ne (tgt := 61) hx hb dX2_follow_54 (by decide) (fun c33 => ?_) (fun c33 => ?_)
          · skip
            have f34 : ((V 60 (8 * (24 * b + (Int32.toNatClampNeg p0)) + (Int32.toNatClampNeg y14)))).toInt ≠ 1 := b_neq rfl (by decide) c33
            refine lv_aload_n hx hb dX2_follow_61 rfl (lv_at hl 1 rfl) ?_
            refine lv_iload_n hx hb dX2_follow_62 rfl (lv_at hl 2 rfl) ?_
            refine lv_iload_n hx hb dX2_follow_63 rfl (lv_at hl 0 rfl) ?_
            have pq35 : (V15 43 (5 * b + 2)).toInt = ((V 43 (5 * b + 2))).toInt := congrArg Int32.toInt ((ajV15 43 (5 * b + 2) rfl).trans ((up2_o hV10 (by decide)).trans (up2_o hV8 (by decide))))
            refine gA_int (gA_runV (As := [.int p0, .int y14]) (rest := []) (ci := 2) (q0 := 2) hx hb hml hown hg hP hD hK hS hA hnw hgk (x_followed5 l D ks H.size ad kk V15 L Z p0 y14 (b) (gs) (gk) ((Int32.toNatClampNeg y14)) (gv) hMV15 (by first | exact om_b2cf528f38f4 rg_p0.2 pk | first | omega | ((try (have i_rfq := Imp.go rfq (by omega))); (try (have i_hsv := Imp.go hsv (by omega))); (try (have i_gkl := Imp.go gkl (by omega))); (try (have i_wh := Imp.go wh (by omega))); first | omega | ((try (have i_coc := Imp.go coc (by omega))); (try (have i_coc := Imp.go coc (by omega))); (try (have i_wh := Imp.go wh (by omega))); (try (have i_gkl := Imp.go gkl (by omega))); (try (have i_hsv := Imp.go hsv (by omega))); (try (have i_rfq := Imp.go rfq (by omega))); omega))) (by first | exact om_45aa31722d3e klp16_0.1 r22.2 f30 | first | omega | ((try (have i_rfq := Imp.go rfq (by omega))); (try (have i_hsv := Imp.go hsv (by omega))); (try (have i_gkl := Imp.go gkl (by omega))); (try (have i_wh := Imp.go wh (by omega))); first | omega | ((try (have i_coc := Imp.go coc (by omega))); (try (have i_coc := Imp.go coc (by omega))); (try (have i_wh := Imp.go wh (by omega))); (try (have i_gkl := Imp.go gkl (by omega))); (try (have i_hsv := Imp.go hsv (by omega))); (try (have i_rfq := Imp.go rfq (by omega))); omega))) (show b < 2 from by first | exact om_f940a4667dd6 hb2 | first | omega | ((try (have i_rfq := Imp.go rfq (by omega))); (try (have i_hsv := Imp.go hsv (by omega))); (try (have i_gkl := Imp.go gkl (by omega))); (try (have i_wh := Imp.go wh (by omega))); first | omega | ((try (have i_coc := Imp.go coc (by omega))); (try (have i_coc := Imp.go coc (by omega))); (try (have i_wh := Imp.go wh (by omega))); (try (have i_gkl := Imp.go gkl (by omega))); (try (have i_hsv := Imp.go hsv (by omega))); (try (have i_rfq := Imp.go rfq (by omega))); omega))) (show (V15 2 6).toInt = (b : Int) from by first | exact om_adf531c77a0d cbk pq18 | first | omega | ((try (have i_rfq := Imp.go rfq (by omega))); (try (have i_hsv := Imp.go hsv (by omega))); (try (have i_gkl := Imp.go gkl (by omega))); (try (have i_wh := Imp.go wh (by omega))); first | omega | ((try (have i_coc := Imp.go coc (by omega))); (try (have i_coc := Imp.go coc (by omega))); (try (have i_wh := Imp.go wh (by omega))); (try (have i_gkl := Imp.go gkl (by omega))); (try (have i_hsv := Imp.go hsv (by omega))); (try (have i_rfq := Imp.go rfq (by omega))); omega))) (show p0.toInt = ((gk : Nat) : Int) from by first | exact om_08e0c9701055 pk | first | omega | ((try (have i_rfq := Imp.go rfq (by omega))); (try (have i_hsv := Imp.go hsv (by omega))); (try (have i_gkl := Imp.go gkl (by omega))); (try (have i_wh := Imp.go wh (by omega))); first | omega | ((try (have i_coc := Imp.go coc (by omega))); (try (have i_coc := Imp.go coc (by omega))); (try (have i_wh := Imp.go wh (by omega))); (try (have i_gkl := Imp.go gkl (by omega))); (try (have i_hsv := Imp.go hsv (by omega))); (try (have i_rfq := Imp.go rfq (by omega))); omega))) (show y14.toInt = (((Int32.toNatClampNeg y14) : Nat) : Int) from by first | exact om_dadc9969542e kj9 | first | omega | ((try (have i_rfq := Imp.go rfq (by omega))); (try (have i_hsv := Imp.go hsv (by omega))); (try (have i_gkl := Imp.go gkl (by omega))); (try (have i_wh := Imp.go wh (by omega))); first | omega | ((try (have i_coc := Imp.go coc (by omega))); (try (have i_coc := Imp.go coc (by omega))); (try (have i_wh := Imp.go wh (by omega))); (try (have i_gkl := Imp.go gkl (by omega))); (try (have i_hsv := Imp.go hsv (by omega))); (try (have i_rfq := Imp.go rfq (by omega))); omega))) (COc.ag coc (by rw [(funext (fun q => ajV15 49 q rfl) : V15 49 = V10 49), (up2_fo hV10 (by decide) : V10 49 = V8 49), (up2_fo hV8 (by decide) : V8 49 = V 49)] : V15 49 = V 49) (by rw [(funext (fun q => ajV15 50 q rfl) : V15 50 = V10 50), (up2_fo hV10 (by decide) : V10 50 = V8 50), (up2_fo hV8 (by decide) : V8 50 = V 50)] : V15 50 = V 50) (by rw [(funext (fun q => ajV15 51 q rfl) : V15 51 = V10 51), (up2_fo hV10 (by decide) : V10 51 = V8 51), (up2_fo hV8 (by decide) : V8 51 = V 51)] : V15 51 = V 51) (by rw [(funext (fun q => ajV15 52 q rfl) : V15 52 = V10 52), (up2_fo hV10 (by decide) : V10 52 = V8 52), (up2_fo hV8 (by decide) : V8 52 = V 52)] : V15 52 = V 52) (by rw [(funext (fun q => ajV15 53 q rfl) : V15 53 = V10 53), (up2_fo hV10 (by decide) : V10 53 = V8 53), (up2_fo hV8 (by decide) : V8 53 = V 53)] : V15 53 = V 53) (by rw [(funext (fun q => ajV15 54 q rfl) : V15 54 = V10 54), (up2_fo hV10 (by decide) : V10 54 = V8 54), (up2_fo hV8 (by decide) : V8 54 = V 54)] : V15 54 = V 54) (by rw [(funext (fun q => ajV15 55 q rfl) : V15 55 = V10 55), (up2_fo hV10 (by decide) : V10 55 = V8 55), (up2_fo hV8 (by decide) : V8 55 = V 55)] : V15 55 = V 55) (by rw [(funext (fun q => ajV15 58 q rfl) : V15 58 = V10 58), (up2_fo hV10 (by decide) : V10 58 = V8 58), (up2_fo hV8 (by decide) : V8 58 = V 58)] : V15 58 = V 58) (by rw [(funext (fun q => ajV15 59 q rfl) : V15 59 = V10 59), (up2_fo hV10 (by decide) : V10 59 = V8 59), (up2_fo hV8 (by decide) : V8 59 = V 59)] : V15 59 = V 59) (by rw [(funext (fun q => ajV15 60 q rfl) : V15 60 = V10 60), (up2_fo hV10 (by decide) : V10 60 = V8 60), (up2_fo hV8 (by decide) : V8 60 = V 60)] : V15 60 = V 60)) wh gkl jl9 (show (V15 43 (5 * b + 2)).toInt = (((gs.2.1 2).length : Nat) : Int) from by first | exact om_adf531c77a0d ln pq35 | first | omega | ((try (have i_rfq := Imp.go rfq (by omega))); (try (have i_hsv := Imp.go hsv (by omega))); (try (have i_gkl := Imp.go gkl (by omega))); (try (have i_wh := Imp.go wh (by omega))); first | omega | ((try (have i_coc := Imp.go coc (by omega))); (try (have i_coc := Imp.go coc (by omega))); (try (have i_wh := Imp.go wh (by omega))); (try (have i_gkl := Imp.go gkl (by omega))); (try (have i_hsv := Imp.go hsv (by omega))); (try (have i_rfq := Imp.go rfq (by omega))); omega))) (show (gs.2.1 2).length ≤ 24 from by first | exact om_6e1dcbb49536 ln2 | first | omega | ((try (have i_rfq := Imp.go rfq (by omega))); (try (have i_hsv := Imp.go hsv (by omega))); (try (have i_gkl := Imp.go gkl (by omega))); (try (have i_wh := Imp.go wh (by omega))); first | omega | ((try (have i_coc := Imp.go coc (by omega))); (try (have i_coc := Imp.go coc (by omega))); (try (have i_wh := Imp.go wh (by omega))); (try (have i_gkl := Imp.go gkl (by omega))); (try (have i_hsv := Imp.go hsv (by omega))); (try (have i_rfq := Imp.go rfq (by omega))); omega))) (svc_fo hsv (by rw [(funext (fun q => ajV15 46 q rfl) : V15 46 = V10 46), (up2_fo hV10 (by decide) : V10 46 = V8 46), (up2_fo hV8 (by decide) : V8 46 = V 46)] : V15 46 = V 46)) (show gs.1 (301 + 32 * gk + 4 * (Int32.toNatClampNeg y14)) ≠ 1 from by first | omega | ((try (have i_rfq := Imp.go rfq (by omega))); (try (have i_hsv := Imp.go hsv (by omega))); (try (have i_gkl := Imp.go gkl (by omega))); (try (have i_wh := Imp.go wh (by omega))); first | omega | ((try (have i_coc := Imp.go coc (by omega))); (try (have i_coc := Imp.go coc (by omega))); (try (have i_wh := Imp.go wh (by omega))); (try (have i_gkl := Imp.go gkl (by omega))); (try (have i_hsv := Imp.go hsv (by omega))); (try (have i_rfq := Imp.go rfq (by omega))); omega)))) w1105 w1107 w39 w163 w1108 rfl xgChecker hdV_yX2_followed ⟨(by show 3 + 1 ≤ 10 * dd + 8; (first | exact om_4bc57dcfbd4f y2 f7 | omega)), (by show 8 + (4 + 11) + (78) ≤ 300 * dd + 260; (first | exact om_bf3bac4c632a y2 f7 | omega))⟩ rfl hl.1 rfl (Nat.le_of_ble_eq_true rfl) dX2_follow_64 ⟨Nat.le_of_ble_eq_true rfl, Nat.le_of_ble_eq_true rfl⟩) hP hD hK hS hA (fun z36 u37 H locs w38 hP hD hK hS => ?_)
            obtain ⟨rgz36, t39⟩ := w38
            have rgz36 : 0 ≤ z36.toInt ∧ z36.toInt ≤ 16777215 := rgz36
            have t39 : EFD z36 gs.1 gv (gs.2.1 2).length gk (Int32.toNatClampNeg y14) := t39
            refine lv_istore (lv' := [(4, .int z36), (3, .int y14), (0, .ref (ad 2)), (1, .int p0), (2, .int p1)]) hx hb dX2_follow_67 hl (by decide) rfl (fun ls hl => ?_)
            have ef40 := t39
            refine lv_iconst (v := 0) hx hb dX2_follow_69 (by decide) ?_
            refine lv_istore (lv' := [(5, .int 0), (4, .int z36), (3, .int y14), (0, .ref (ad 2)), (1, .int p0), (2, .int p1)]) hx hb dX2_follow_70 hl (by decide) rfl (fun ls hl => ?_)
            have lp43 : ∀ (fulp43 : Nat) (y41 : Int32) (V42 : Vf) (H : Heap) (locs : List Loc) (ls : Array Slot), 0 ≤ y41.toInt ∧ y41.toInt ≤ 24 → (V42 2 7).toInt + 192 * (cx V42 24 : Int) + 192 ≤ (V 2 7).toInt + 192 * (cx V 24 : Int) + 24 * y14.toInt + y41.toInt → (V 2 7).toInt ≤ (V42 2 7).toInt → (∀ q : Nat, (V 20 q).toInt ≠ -1 → (V42 20 q).toInt ≠ -1) → (V42 20 (Int32.toNatClampNeg p0)).toInt ≠ -1 → (RFc V42 (gs.2.1 2).length (VFO gs.1 gv (gs.2.1 2).length (24 - (dq + 1)) dq gP gk gM (edJ gs.1 gv (gs.2.1 2).length gk y14.toInt.toNat ++ edC gs.1 gv (gs.2.1 2).length gk y14.toInt.toNat y41.toInt.toNat)) (upn gP dq gk) (dq + 1)) → y41.toInt ≤ (((gs.2.1 2).length : Nat) : Int) → 24 - y41.toInt < (fulp43 : Int) → agr [(2, 7)] [15, 16, 17, 18, 19, 20] V15 V42 → rgd bX V42 → va_P D vwCl (xw ad kk V42 L Z) H → va_D A (xw ad kk V42 L Z) → va_S A s.heap H locs → lv_has ls 6 [(5, .int y41), (4, .int z36), (3, .int y14), (0, .ref (ad 2)), (1, .int p0), (2, .int p1)] → W p l e (rK 8 260 dd) s m ([.ref (ad 2), .int p0, .int p1] : List Value).toArray below meth c H locs 0 0 (MQ below (q_x_follow5 D ks ad kk V L Z p0 p1 b gs gk gv gM gP dq A) ([.ref (ad 2), .int p0, .int p1] : List Value).toArray s 0 0 A) (F0 m 72 ls []) := by
              intro fulp43
              induction fulp43 with
              | zero =>
                intro y41 V42 H locs ls klp43_0 xlp43_0 xlp43_1 xlp43_2 xlp43_3 xlp43_4 xlp43_5 hn ajV42 hMV42 hP hD hS hl
                exfalso; (first | exact om_9386ef0df612 klp43_0.2 hn | omega)
              | succ fulp43 ihlp43 =>
                intro y41 V42 H locs ls klp43_0 xlp43_0 xlp43_1 xlp43_2 xlp43_3 xlp43_4 xlp43_5 hn ajV42 hMV42 hP hD hS hl
                have agV42 : agr [(2, 7)] [15, 16, 17, 18, 19, 20] V V42 := agV15.tr ajV42 (by decide) (by decide)
                have r44 : 0 ≤ ((V42 2 7)).toInt ∧ ((V42 2 7)).toInt ≤ 1000000 := hMV42 2 7
                refine lv_iload hx hb dX2_follow_72 (lv_at hl 0 rfl) ?_
                refine lv_aload_n hx hb dX2_follow_74 rfl (lv_at hl 3 rfl) ?_
                refine va_get (D := D) (ci := 2) (v := rfN ad 38 (V42 2 6)) (fs := (xfChecker ad V42 L Z)) (C := RX2) (T := TX2) (N := 8) hx hb hg inX2 hown hK hP 2 xgChecker rfl 6 (by decide) (hg _ w344) (fun _ h9 => h9) rfl dX2_follow_75 ?_
                have pq45 : (V42 2 6).toInt = ((V 2 6)).toInt := congrArg Int32.toInt ((ajV42 2 6 rfl).trans ((ajV15 2 6 rfl).trans ((up2_o hV10 (by decide)).trans (up2_o hV8 (by decide)))))
                refine g_topv (v := .ref (ad (38 + b))) (rfN_r (by first | omega | ((try (have i_rfq := Imp.go rfq (by omega))); (try (have i_hsv := Imp.go hsv (by omega))); (try (have i_gkl := Imp.go gkl (by omega))); (try (have i_wh := Imp.go wh (by omega))); first | omega | ((try (have i_coc := Imp.go coc (by omega))); (try (have i_coc := Imp.go coc (by omega))); (try (have i_wh := Imp.go wh (by omega))); (try (have i_gkl := Imp.go gkl (by omega))); (try (have i_hsv := Imp.go hsv (by omega))); (try (have i_rfq := Imp.go rfq (by omega))); omega)))) ?_
                refine va_getN (D := D) (ci := 0) (v := .ref (ad (40 + (5 * b + 2)))) (fs := (xfBook ad V42 b)) (C := RX0) (T := TX0) (N := 13) hx hb hg inX0 hown hK hP (38 + b) (xgBook hb2) rfl 2 (by decide) (hnw.use 600 n600 rfl) (fun _ h9 => h9) rfl dX2_follow_78 ?_
                have il46 : (5 * b + 2) < 10 := by first | exact om_1478e52fbf50 hb2 | first | omega | ((try (have i_rfq := Imp.go rfq (by omega))); (try (have i_hsv := Imp.go hsv (by omega))); (try (have i_gkl := Imp.go gkl (by omega))); (try (have i_wh := Imp.go wh (by omega))); first | omega | ((try (have i_coc := Imp.go coc (by omega))); (try (have i_coc := Imp.go coc (by omega))); (try (have i_wh := Imp.go wh (by omega))); (try (have i_gkl := Imp.go gkl (by omega))); (try (have i_hsv := Imp.go hsv (by omega))); (try (have i_rfq := Imp.go rfq (by omega))); omega))
                refine va_getN (D := D) (ci := 6) (v := .int (V42 43 (5 * b + 2))) (fs := (xfNames ad V42 (5 * b + 2))) (C := RX6) (T := TX6) (N := 2) hx hb hg inX6 hown hK hP (40 + (5 * b + 2)) (xgNames il46) rfl 1 (by decide) (hnw.use 482 n482 rfl) (fun _ h9 => h9) rfl dX2_follow_81 ?_
                refine g_top (v := (V 43 (5 * b + 2))) ((ajV42 43 (5 * b + 2) rfl).trans ((ajV15 43 (5 * b + 2) rfl).trans ((up2_o hV10 (by decide)).trans (up2_o hV8 (by decide))))) ?_
                refine lv_icmp_ge (tgt := 153) hx hb dX2_follow_84 (by decide) (fun c47 => ?_) (fun c47 => ?_)
                · skip
                  have f48 : ((V 43 (5 * b + 2))).toInt ≤ y41.toInt := b_le rfl rfl c47
                  obtain ⟨z49, ez49⟩ : ∃ y : Int32, y = y14 + 1 := ⟨_, rfl⟩
                  have hz49 : z49.toInt = y14.toInt + 1 := i_add ez49 rfl (by decide) (by (first | exact om_56ff1e099a1d klp16_0.1 r22.2 f30 | omega))
                  refine lv_iinc (v := z49) (lv' := [(3, .int z49), (5, .int y41), (4, .int z36), (0, .ref (ad 2)), (1, .int p0), (2, .int p1)]) hx hb dX2_follow_153 hl (k := 2) rfl (by rw [ez49]; rfl) (by decide) rfl (fun ls hl => ?_)
                  refine lv_goto (tgt := 23) hx hb dX2_follow_156 (by decide) ?_
                  exact ihlp16 z49 V42 H locs ls (by first | exact om_7c19206264d1 klp16_0.1 r22.2 f30 hz49 | first | omega | ((try (have i_rfq := Imp.go rfq (by omega))); (try (have i_hsv := Imp.go hsv (by omega))); (try (have i_gkl := Imp.go gkl (by omega))); (try (have i_wh := Imp.go wh (by omega))); first | omega | ((try (have i_coc := Imp.go coc (by omega))); (try (have i_coc := Imp.go coc (by omega))); (try (have i_wh := Imp.go wh (by omega))); (try (have i_gkl := Imp.go gkl (by omega))); (try (have i_hsv := Imp.go hsv (by omega))); (try (have i_rfq := Imp.go rfq (by omega))); omega))) (show (V42 2 7).toInt + 192 * (cx V42 24 : Int) + 192 ≤ (V 2 7).toInt + 192 * (cx V 24 : Int) + 24 * z49.toInt from by first | exact om_183a7b9b545d ln r4.2 r5 xlp43_0 xlp43_5 hz49 | first | omega | ((try (have i_rfq := Imp.go rfq (by omega))); (try (have i_hsv := Imp.go hsv (by omega))); (try (have i_gkl := Imp.go gkl (by omega))); (try (have i_wh := Imp.go wh (by omega))); first | omega | ((try (have i_coc := Imp.go coc (by omega))); (try (have i_coc := Imp.go coc (by omega))); (try (have i_wh := Imp.go wh (by omega))); (try (have i_gkl := Imp.go gkl (by omega))); (try (have i_hsv := Imp.go hsv (by omega))); (try (have i_rfq := Imp.go rfq (by omega))); omega))) (show (V 2 7).toInt ≤ (V42 2 7).toInt from by first | exact om_f4906d00fa52 xlp43_1 | first | omega | ((try (have i_rfq := Imp.go rfq (by omega))); (try (have i_hsv := Imp.go hsv (by omega))); (try (have i_gkl := Imp.go gkl (by omega))); (try (have i_wh := Imp.go wh (by omega))); first | omega | ((try (have i_coc := Imp.go coc (by omega))); (try (have i_coc := Imp.go coc (by omega))); (try (have i_wh := Imp.go wh (by omega))); (try (have i_gkl := Imp.go gkl (by omega))); (try (have i_hsv := Imp.go hsv (by omega))); (try (have i_rfq := Imp.go rfq (by omega))); omega))) xlp43_2 xlp43_3 (by have h9 := xlp43_4; rw [show y41.toInt.toNat = (gs.2.1 2).length from by omega] at h9; rw [show z49.toInt.toNat = (Int32.toNatClampNeg y14) + 1 from by omega]; exact h9) (show z49.toInt ≤ ((gs.1 (66 + 8 * gk) : Nat) : Int) from by first | exact om_bcda7a344117 h49 f30 hz49 | first | omega | ((try (have i_rfq := Imp.go rfq (by omega))); (try (have i_hsv := Imp.go hsv (by omega))); (try (have i_gkl := Imp.go gkl (by omega))); (try (have i_wh := Imp.go wh (by omega))); first | omega | ((try (have i_coc := Imp.go coc (by omega))); (try (have i_coc := Imp.go coc (by omega))); (try (have i_wh := Imp.go wh (by omega))); (try (have i_gkl := Imp.go gkl (by omega))); (try (have i_hsv := Imp.go hsv (by omega))); (try (have i_rfq := Imp.go rfq (by omega))); omega))) (by first | omega | ((try (have i_rfq := Imp.go rfq (by omega))); (try (have i_hsv := Imp.go hsv (by omega))); (try (have i_gkl := Imp.go gkl (by omega))); (try (have i_wh := Imp.go wh (by omega))); first | omega | ((try (have i_coc := Imp.go coc (by omega))); (try (have i_coc := Imp.go coc (by omega))); (try (have i_wh := Imp.go wh (by omega))); (try (have i_gkl := Imp.go gkl (by omega))); (try (have i_hsv := Imp.go hsv (by omega))); (try (have i_rfq := Imp.go rfq (by omega))); omega))) (agr.tr (agr.tr agr.rf ajV15 (by decide) (by decide)) ajV42 (by decide) (by decide)) hMV42 hP hD hS (lv_sub hl [0, 3, 4, 5] rfl)
                · skip
                  have f50 : y41.toInt < ((V 43 (5 * b + 2))).toInt := b_nle rfl rfl c47
                  have kd9 := i_clamp (x := y41) rfl (by (first | exact om_eafa9039069c klp43_0.1 | omega))
                  have dl9 : (Int32.toNatClampNeg y41) < (gs.2.1 2).length := by (first | exact om_e51872d74568 ln f50 kd9 | omega)
                  refine lv_iload hx hb dX2_follow_87 (lv_at hl 1 rfl) ?_
                  refine lv_iload hx hb dX2_follow_89 (lv_at hl 0 rfl) ?_
                  refine lv_ishr hx hb dX2_follow_91 ?_
                  refine lv_topi (fun z51 ez51 => ?_)
                  refine lv_iconst (v := 1) hx hb dX2_follow_92 (by decide) ?_
                  refine lv_iand hx hb dX2_follow_93 ?_
                  refine lv_topi (fun z52 ez52 => ?_)
                  have hz52 : 0 ≤ z52.toInt ∧ z52.toInt ≤ 1 := and_m ez52 (by decide)
                  have lb9 : z52.toInt = 0 ↔ bt z36 (Int32.toNatClampNeg y41) = false := lb_get ez51 ez52 (show y41.toInt = (((Int32.toNatClampNeg y41) : Nat) : Int) from by (first | exact om_dadc9969542e kd9 | omega)) (by omega)
                  refine lv_if_ne (tgt := 100) hx hb dX2_follow_94 (by decide) (fun c53 => ?_) (fun c53 => ?_)
                  · skip
                    have f54 : z52.toInt ≠ 0 := b_neq rfl (by decide) c53
                    have bt9 : bt z36 (Int32.toNatClampNeg y41) = true := by cases e9 : bt z36 (Int32.toNatClampNeg y41); exact absurd (lb9.mpr e9) (by omega); rfl
                    have ed9 := EFD.y ef40 dl9 bt9
                    have rf9 : RFc V42 (gs.2.1 2).length (VFO gs.1 gv (gs.2.1 2).length (24 - (dq + 1)) dq gP gk gM (edJ gs.1 gv (gs.2.1 2).length gk (Int32.toNatClampNeg y14) ++ edC gs.1 gv (gs.2.1 2).length gk (Int32.toNatClampNeg y14) (Int32.toNatClampNeg y41))) (upn gP dq gk) (dq + 1) := xlp43_4
                    have mk9 := rf9.2.1 (Int32.toNatClampNeg y41) dl9
                    unfold MKc at mk9
                    have r55 : (-2) ≤ ((V42 20 (Int32.toNatClampNeg y41))).toInt ∧ ((V42 20 (Int32.toNatClampNeg y41))).toInt ≤ 23 := hMV42 20 (Int32.toNatClampNeg y41)
                    refine lv_aload_n hx hb dX2_follow_100 rfl (lv_at hl 3 rfl) ?_
                    refine va_get (D := D) (ci := 2) (v := .ref (ad 17)) (fs := (xfChecker ad V42 L Z)) (C := RX2) (T := TX2) (N := 8) hx hb hg inX2 hown hK hP 2 xgChecker rfl 5 (by decide) (hg _ w343) (fun _ h9 => h9) rfl dX2_follow_101 ?_
                    refine lv_iload hx hb dX2_follow_104 (lv_at hl 0 rfl) ?_
                    refine va_iald (D := D) (i := y41) hx hb hK hP 17 10 rfl rfl (i_in (a := y41.toInt) rfl (by first | exact om_67de8ba3d9bb ln ln2 klp43_0.1 f50 | first | omega | ((try (have i_rfq := Imp.go rfq (by omega))); (try (have i_hsv := Imp.go hsv (by omega))); (try (have i_gkl := Imp.go gkl (by omega))); (try (have i_wh := Imp.go wh (by omega))); first | omega | ((try (have i_coc := Imp.go coc (by omega))); (try (have i_coc := Imp.go coc (by omega))); (try (have i_wh := Imp.go wh (by omega))); (try (have i_gkl := Imp.go gkl (by omega))); (try (have i_hsv := Imp.go hsv (by omega))); (try (have i_rfq := Imp.go rfq (by omega))); omega)))) dX2_follow_106 ?_
                    refine lv_iconst (v := (-1)) hx hb dX2_follow_107 (by decide) ?_
                    refine lv_icmp_ne (tgt := 123) hx hb dX2_follow_108 (by decide) (fun c56 => ?_) (fun c56 => ?_)
                    · skip
                      have f57 : ((V42 20 (Int32.toNatClampNeg y41))).toInt ≠ (-1) := b_neq rfl (by decide) c56
                      refine lv_aload_n hx hb dX2_follow_123 rfl (lv_at hl 3 rfl) ?_
                      refine va_get (D := D) (ci := 2) (v := .ref (ad 17)) (fs := (xfChecker ad V42 L Z)) (C := RX2) (T := TX2) (N := 8) hx hb hg inX2 hown hK hP 2 xgChecker rfl 5 (by decide) (hg _ w343) (fun _ h9 => h9) rfl dX2_follow_124 ?_
                      refine lv_iload hx hb dX2_follow_127 (lv_at hl 0 rfl) ?_
                      refine va_iald (D := D) (i := y41) hx hb hK hP 17 10 rfl rfl (i_in (a := y41.toInt) rfl (by first | exact om_67de8ba3d9bb ln ln2 klp43_0.1 f50 | first | omega | ((try (have i_rfq := Imp.go rfq (by omega))); (try (have i_hsv := Imp.go hsv (by omega))); (try (have i_gkl := Imp.go gkl (by omega))); (try (have i_wh := Imp.go wh (by omega))); first | omega | ((try (have i_coc := Imp.go coc (by omega))); (try (have i_coc := Imp.go coc (by omega))); (try (have i_wh := Imp.go wh (by omega))); (try (have i_gkl := Imp.go gkl (by omega))); (try (have i_hsv := Imp.go hsv (by omega))); (try (have i_rfq := Imp.go rfq (by omega))); omega)))) dX2_follow_129 ?_
                      refine lv_bipush (v := (-2)) hx hb dX2_follow_130 (by decide) ?_
                      refine lv_icmp_eq (tgt := 147) hx hb dX2_follow_132 (by decide) (fun c58 => ?_) (fun c58 => ?_)
                      · skip
                        have f59 : ((V42 20 (Int32.toNatClampNeg y41))).toInt = (-2) := b_eq rfl (by decide) c58
                        obtain ⟨z60, ez60⟩ : ∃ y : Int32, y = y41 + 1 := ⟨_, rfl⟩
                        have hz60 : z60.toInt = y41.toInt + 1 := i_add ez60 rfl (by decide) (by (first | exact om_1496522b7eb5 ln ln2 klp43_0.1 f50 | omega))
                        refine lv_iinc (v := z60) (lv' := [(5, .int z60), (4, .int z36), (3, .int y14), (0, .ref (ad 2)), (1, .int p0), (2, .int p1)]) hx hb dX2_follow_147 hl (k := 0) rfl (by rw [ez60]; rfl) (by decide) rfl (fun ls hl => ?_)
                        refine lv_goto (tgt := 72) hx hb dX2_follow_150 (by decide) ?_
                        exact ihlp43 z60 V42 H locs ls (by first | exact om_71a9c3e930b1 ln ln2 klp43_0.1 f50 hz60 | first | omega | ((try (have i_rfq := Imp.go rfq (by omega))); (try (have i_hsv := Imp.go hsv (by omega))); (try (have i_gkl := Imp.go gkl (by omega))); (try (have i_wh := Imp.go wh (by omega))); first | omega | ((try (have i_coc := Imp.go coc (by omega))); (try (have i_coc := Imp.go coc (by omega))); (try (have i_wh := Imp.go wh (by omega))); (try (have i_gkl := Imp.go gkl (by omega))); (try (have i_hsv := Imp.go hsv (by omega))); (try (have i_rfq := Imp.go rfq (by omega))); omega))) (show (V42 2 7).toInt + 192 * (cx V42 24 : Int) + 192 ≤ (V 2 7).toInt + 192 * (cx V 24 : Int) + 24 * y14.toInt + z60.toInt from by first | exact om_c6c0086499f2 xlp43_0 hz60 | first | omega | ((try (have i_rfq := Imp.go rfq (by omega))); (try (have i_hsv := Imp.go hsv (by omega))); (try (have i_gkl := Imp.go gkl (by omega))); (try (have i_wh := Imp.go wh (by omega))); first | omega | ((try (have i_coc := Imp.go coc (by omega))); (try (have i_coc := Imp.go coc (by omega))); (try (have i_wh := Imp.go wh (by omega))); (try (have i_gkl := Imp.go gkl (by omega))); (try (have i_hsv := Imp.go hsv (by omega))); (try (have i_rfq := Imp.go rfq (by omega))); omega))) (show (V 2 7).toInt ≤ (V42 2 7).toInt from by first | exact om_f4906d00fa52 xlp43_1 | first | omega | ((try (have i_rfq := Imp.go rfq (by omega))); (try (have i_hsv := Imp.go hsv (by omega))); (try (have i_gkl := Imp.go gkl (by omega))); (try (have i_wh := Imp.go wh (by omega))); first | omega | ((try (have i_coc := Imp.go coc (by omega))); (try (have i_coc := Imp.go coc (by omega))); (try (have i_wh := Imp.go wh (by omega))); (try (have i_gkl := Imp.go gkl (by omega))); (try (have i_hsv := Imp.go hsv (by omega))); (try (have i_rfq := Imp.go rfq (by omega))); omega))) xlp43_2 xlp43_3 (by rw [show z60.toInt.toNat = (Int32.toNatClampNeg y41) + 1 from by omega, show y14.toInt.toNat = (Int32.toNatClampNeg y14) from rfl, ed9, ← List.append_assoc, VFO_a, stE_1 (by omega)]; exact rf9) (show z60.toInt ≤ (((gs.2.1 2).length : Nat) : Int) from by first | exact om_bcda7a344117 ln f50 hz60 | first | omega | ((try (have i_rfq := Imp.go rfq (by omega))); (try (have i_hsv := Imp.go hsv (by omega))); (try (have i_gkl := Imp.go gkl (by omega))); (try (have i_wh := Imp.go wh (by omega))); first | omega | ((try (have i_coc := Imp.go coc (by omega))); (try (have i_coc := Imp.go coc (by omega))); (try (have i_wh := Imp.go wh (by omega))); (try (have i_gkl := Imp.go gkl (by omega))); (try (have i_hsv := Imp.go hsv (by omega))); (try (have i_rfq := Imp.go rfq (by omega))); omega))) (by first | exact om_9592d9319ffa hn hz60 | first | omega | ((try (have i_rfq := Imp.go rfq (by omega))); (try (have i_hsv := Imp.go hsv (by omega))); (try (have i_gkl := Imp.go gkl (by omega))); (try (have i_wh := Imp.go wh (by omega))); first | omega | ((try (have i_coc := Imp.go coc (by omega))); (try (have i_coc := Imp.go coc (by omega))); (try (have i_wh := Imp.go wh (by omega))); (try (have i_gkl := Imp.go gkl (by omega))); (try (have i_hsv := Imp.go hsv (by omega))); (try (have i_rfq := Imp.go rfq (by omega))); omega))) (agr.tr agr.rf ajV42 (by decide) (by decide)) hMV42 hP hD hS (lv_sub hl [0, 1, 2, 3, 4, 5] rfl)
                      · skip
                        have f61 : ((V42 20 (Int32.toNatClampNeg y41))).toInt ≠ (-2) := b_neq rfl (by decide) c58
                        have m29 : 2 ≤ (VFO gs.1 gv (gs.2.1 2).length (24 - (dq + 1)) dq gP gk gM (edJ gs.1 gv (gs.2.1 2).length gk (Int32.toNatClampNeg y14) ++ edC gs.1 gv (gs.2.1 2).length gk (Int32.toNatClampNeg y14) (Int32.toNatClampNeg y41))).1 (Int32.toNatClampNeg y41) := by omega
                        have pw9 := rf9.2.2.2.1 (Int32.toNatClampNeg y41) m29
                        refine lv_aload_n hx hb dX2_follow_135 rfl (lv_at hl 3 rfl) ?_
                        refine lv_aload_n hx hb dX2_follow_136 rfl (lv_at hl 3 rfl) ?_
                        refine va_get (D := D) (ci := 2) (v := .ref (ad 17)) (fs := (xfChecker ad V42 L Z)) (C := RX2) (T := TX2) (N := 8) hx hb hg inX2 hown hK hP 2 xgChecker rfl 5 (by decide) (hg _ w343) (fun _ h9 => h9) rfl dX2_follow_137 ?_
                        refine lv_iload hx hb dX2_follow_140 (lv_at hl 0 rfl) ?_
                        refine va_iald (D := D) (i := y41) hx hb hK hP 17 10 rfl rfl (i_in (a := y41.toInt) rfl (by first | exact om_67de8ba3d9bb ln ln2 klp43_0.1 f50 | first | omega | ((try (have i_rfq := Imp.go rfq (by omega))); (try (have i_hsv := Imp.go hsv (by omega))); (try (have i_gkl := Imp.go gkl (by omega))); (try (have i_wh := Imp.go wh (by omega))); first | omega | ((try (have i_coc := Imp.go coc (by omega))); (try (have i_coc := Imp.go coc (by omega))); (try (have i_wh := Imp.go wh (by omega))); (try (have i_gkl := Imp.go gkl (by omega))); (try (have i_hsv := Imp.go hsv (by omega))); (try (have i_rfq := Imp.go rfq (by omega))); omega)))) dX2_follow_142 ?_
                        refine lv_iload_n hx hb dX2_follow_143 rfl (lv_at hl 5 rfl) ?_
                        refine gA_void (gA_runV (As := [.int (V42 20 (Int32.toNatClampNeg y41)), .int p1]) (rest := []) (ci := 2) (q0 := 2) hx hb hml hown hg hP hD hK hS hA hnw hgk (x_noteRing5 l D ks H.size ad kk V42 L Z (V42 20 (Int32.toNatClampNeg y41)) p1 ((VFO gs.1 gv (gs.2.1 2).length (24 - (dq + 1)) dq gP gk gM (edJ gs.1 gv (gs.2.1 2).length gk (Int32.toNatClampNeg y14) ++ edC gs.1 gv (gs.2.1 2).length gk (Int32.toNatClampNeg y14) (Int32.toNatClampNeg y41))).2) ((upn gP dq gk)) ((VFO gs.1 gv (gs.2.1 2).length (24 - (dq + 1)) dq gP gk gM (edJ gs.1 gv (gs.2.1 2).length gk (Int32.toNatClampNeg y14) ++ edC gs.1 gv (gs.2.1 2).length gk (Int32.toNatClampNeg y14) (Int32.toNatClampNeg y41))).1 (Int32.toNatClampNeg y41) - 2) (dq) ((Int32.toNatClampNeg y41)) hMV42 (by first | omega | ((try (have i_rfq := Imp.go rfq (by omega))); (try (have i_hsv := Imp.go hsv (by omega))); (try (have i_gkl := Imp.go gkl (by omega))); (try (have i_wh := Imp.go wh (by omega))); first | omega | ((try (have i_coc := Imp.go coc (by omega))); (try (have i_coc := Imp.go coc (by omega))); (try (have i_wh := Imp.go wh (by omega))); (try (have i_gkl := Imp.go gkl (by omega))); (try (have i_hsv := Imp.go hsv (by omega))); (try (have i_rfq := Imp.go rfq (by omega))); omega))) (by first | exact om_582a5a29f9ff rg_p1.1 f7 | first | omega | ((try (have i_rfq := Imp.go rfq (by omega))); (try (have i_hsv := Imp.go hsv (by omega))); (try (have i_gkl := Imp.go gkl (by omega))); (try (have i_wh := Imp.go wh (by omega))); first | omega | ((try (have i_coc := Imp.go coc (by omega))); (try (have i_coc := Imp.go coc (by omega))); (try (have i_wh := Imp.go wh (by omega))); (try (have i_gkl := Imp.go gkl (by omega))); (try (have i_hsv := Imp.go hsv (by omega))); (try (have i_rfq := Imp.go rfq (by omega))); omega))) (show (V42 2 7).toInt ≤ 999999 from by first | exact om_dfc5663c516c y3 ln ln2 r22.2 f30 xlp43_0 f50 | first | omega | ((try (have i_rfq := Imp.go rfq (by omega))); (try (have i_hsv := Imp.go hsv (by omega))); (try (have i_gkl := Imp.go gkl (by omega))); (try (have i_wh := Imp.go wh (by omega))); first | omega | ((try (have i_coc := Imp.go coc (by omega))); (try (have i_coc := Imp.go coc (by omega))); (try (have i_wh := Imp.go wh (by omega))); (try (have i_gkl := Imp.go gkl (by omega))); (try (have i_hsv := Imp.go hsv (by omega))); (try (have i_rfq := Imp.go rfq (by omega))); omega))) (show ((V42 20 (Int32.toNatClampNeg y41))).toInt = ((((VFO gs.1 gv (gs.2.1 2).length (24 - (dq + 1)) dq gP gk gM (edJ gs.1 gv (gs.2.1 2).length gk (Int32.toNatClampNeg y14) ++ edC gs.1 gv (gs.2.1 2).length gk (Int32.toNatClampNeg y14) (Int32.toNatClampNeg y41))).1 (Int32.toNatClampNeg y41) - 2) : Nat) : Int) from by first | omega | ((try (have i_rfq := Imp.go rfq (by omega))); (try (have i_hsv := Imp.go hsv (by omega))); (try (have i_gkl := Imp.go gkl (by omega))); (try (have i_wh := Imp.go wh (by omega))); first | omega | ((try (have i_coc := Imp.go coc (by omega))); (try (have i_coc := Imp.go coc (by omega))); (try (have i_wh := Imp.go wh (by omega))); (try (have i_gkl := Imp.go gkl (by omega))); (try (have i_hsv := Imp.go hsv (by omega))); (try (have i_rfq := Imp.go rfq (by omega))); omega))) (show p1.toInt = ((dq : Nat) : Int) from by first | exact om_08e0c9701055 pp | first | omega | ((try (have i_rfq := Imp.go rfq (by omega))); (try (have i_hsv := Imp.go hsv (by omega))); (try (have i_gkl := Imp.go gkl (by omega))); (try (have i_wh := Imp.go wh (by omega))); first | omega | ((try (have i_coc := Imp.go coc (by omega))); (try (have i_coc := Imp.go coc (by omega))); (try (have i_wh := Imp.go wh (by omega))); (try (have i_gkl := Imp.go gkl (by omega))); (try (have i_hsv := Imp.go hsv (by omega))); (try (have i_rfq := Imp.go rfq (by omega))); omega))) (show ((VFO gs.1 gv (gs.2.1 2).length (24 - (dq + 1)) dq gP gk gM (edJ gs.1 gv (gs.2.1 2).length gk (Int32.toNatClampNeg y14) ++ edC gs.1 gv (gs.2.1 2).length gk (Int32.toNatClampNeg y14) (Int32.toNatClampNeg y41))).1 (Int32.toNatClampNeg y41) - 2) ≤ dq from by first | omega | ((try (have i_rfq := Imp.go rfq (by omega))); (try (have i_hsv := Imp.go hsv (by omega))); (try (have i_gkl := Imp.go gkl (by omega))); (try (have i_wh := Imp.go wh (by omega))); first | omega | ((try (have i_coc := Imp.go coc (by omega))); (try (have i_coc := Imp.go coc (by omega))); (try (have i_wh := Imp.go wh (by omega))); (try (have i_gkl := Imp.go gkl (by omega))); (try (have i_hsv := Imp.go hsv (by omega))); (try (have i_rfq := Imp.go rfq (by omega))); omega))) rf9.1 rf9.2.2.1 pw9.2) w1109 w1111 w40 w163 w1112 rfl xgChecker hdV_yX2_noteRing ⟨(by show 1 + 1 ≤ 10 * dd + 8; (first | exact om_1d2910de4fd0 y2 f7 | omega)), (by show 8 + (4 + 11) + (23) ≤ 300 * dd + 260; (first | exact om_94db7e494f5c y2 f7 | omega))⟩ rfl hl.1 rfl (Nat.le_of_ble_eq_true rfl) dX2_follow_144 ⟨Nat.le_of_ble_eq_true rfl, Nat.le_of_ble_eq_true rfl⟩) hP hD hK hS hA (fun u63 H locs w64 hP hD hK hS => ?_)
                        obtain ⟨V67, L68⟩ := u63
                        obtain ⟨hMV67, ajV67, axL68, t65, t66⟩ := w64
                        have axL68 : L = L68 := Eq.symm axL68
                        subst axL68
                        have hP : va_P D vwCl (xw ad kk V67 L Z) H := hP
                        have hD : va_D A (xw ad kk V67 L Z) := hD
                        have hMV67 : rgd bX V67 := hMV67
                        have ajV67 : agr [(2, 7)] [15, 16, 17, 18] V42 V67 := ajV67
                        have agV67 : agr [(2, 7)] [15, 16, 17, 18, 19, 20] V V67 := agV42.tr ajV67 (by decide) (by decide)
                        have t65 : (V67 2 7).toInt = (V42 2 7).toInt + 1 := t65
                        have t66 : FLc V67 (adF ((VFO gs.1 gv (gs.2.1 2).length (24 - (dq + 1)) dq gP gk gM (edJ gs.1 gv (gs.2.1 2).length gk (Int32.toNatClampNeg y14) ++ edC gs.1 gv (gs.2.1 2).length gk (Int32.toNatClampNeg y14) (Int32.toNatClampNeg y41))).2) 3 (Int32.toNatClampNeg y41) (dq + 1 - ((VFO gs.1 gv (gs.2.1 2).length (24 - (dq + 1)) dq gP gk gM (edJ gs.1 gv (gs.2.1 2).length gk (Int32.toNatClampNeg y14) ++ edC gs.1 gv (gs.2.1 2).length gk (Int32.toNatClampNeg y14) (Int32.toNatClampNeg y41))).1 (Int32.toNatClampNeg y41) - 2)) (fun k9 => (upn gP dq gk) (((VFO gs.1 gv (gs.2.1 2).length (24 - (dq + 1)) dq gP gk gM (edJ gs.1 gv (gs.2.1 2).length gk (Int32.toNatClampNeg y14) ++ edC gs.1 gv (gs.2.1 2).length gk (Int32.toNatClampNeg y14) (Int32.toNatClampNeg y41))).1 (Int32.toNatClampNeg y41) - 2) + k9))) := t66
                        have r69 : 0 ≤ ((V67 2 7)).toInt ∧ ((V67 2 7)).toInt ≤ 1000000 := hMV67 2 7
                        obtain ⟨z70, ez70⟩ : ∃ y : Int32, y = y41 + 1 := ⟨_, rfl⟩
                        have hz70 : z70.toInt = y41.toInt + 1 := i_add ez70 rfl (by decide) (by (first | exact om_1496522b7eb5 ln ln2 klp43_0.1 f50 | omega))
                        refine lv_iinc (v := z70) (lv' := [(5, .int z70), (4, .int z36), (3, .int y14), (0, .ref (ad 2)), (1, .int p0), (2, .int p1)]) hx hb dX2_follow_147 hl (k := 0) rfl (by rw [ez70]; rfl) (by decide) rfl (fun ls hl => ?_)
                        refine lv_goto (tgt := 72) hx hb dX2_follow_150 (by decide) ?_
                        have cq71 : cx V67 24 = cx V42 24 := cx_ag (show agr [(2, 7)] [15, 16, 17, 18] V42 V67 from (agr.tr agr.rf ajV67 (by decide) (by decide))) (fun _ => rfl) 24
                        exact ihlp43 z70 V67 H locs ls (by first | exact om_71a9c3e930b1 ln ln2 klp43_0.1 f50 hz70 | first | omega | ((try (have i_rfq := Imp.go rfq (by omega))); (try (have i_hsv := Imp.go hsv (by omega))); (try (have i_gkl := Imp.go gkl (by omega))); (try (have i_wh := Imp.go wh (by omega))); first | omega | ((try (have i_coc := Imp.go coc (by omega))); (try (have i_coc := Imp.go coc (by omega))); (try (have i_wh := Imp.go wh (by omega))); (try (have i_gkl := Imp.go gkl (by omega))); (try (have i_hsv := Imp.go hsv (by omega))); (try (have i_rfq := Imp.go rfq (by omega))); omega))) (show (V67 2 7).toInt + 192 * (cx V67 24 : Int) + 192 ≤ (V 2 7).toInt + 192 * (cx V 24 : Int) + 24 * y14.toInt + z70.toInt from by first | exact om_d6037a19fb3f xlp43_0 t65 hz70 cq71 | first | omega | ((try (have i_rfq := Imp.go rfq (by omega))); (try (have i_hsv := Imp.go hsv (by omega))); (try (have i_gkl := Imp.go gkl (by omega))); (try (have i_wh := Imp.go wh (by omega))); first | omega | ((try (have i_coc := Imp.go coc (by omega))); (try (have i_coc := Imp.go coc (by omega))); (try (have i_wh := Imp.go wh (by omega))); (try (have i_gkl := Imp.go gkl (by omega))); (try (have i_hsv := Imp.go hsv (by omega))); (try (have i_rfq := Imp.go rfq (by omega))); omega))) (show (V 2 7).toInt ≤ (V67 2 7).toInt from by first | exact om_f75a30b4c815 xlp43_1 t65 | first | omega | ((try (have i_rfq := Imp.go rfq (by omega))); (try (have i_hsv := Imp.go hsv (by omega))); (try (have i_gkl := Imp.go gkl (by omega))); (try (have i_wh := Imp.go wh (by omega))); first | omega | ((try (have i_coc := Imp.go coc (by omega))); (try (have i_coc := Imp.go coc (by omega))); (try (have i_wh := Imp.go wh (by omega))); (try (have i_gkl := Imp.go gkl (by omega))); (try (have i_hsv := Imp.go hsv (by omega))); (try (have i_rfq := Imp.go rfq (by omega))); omega))) (fun q hq => by rw [ajV67 20 q rfl]; exact xlp43_2 q hq) (by rw [ajV67 20 _ rfl]; exact xlp43_3) (by rw [show z70.toInt.toNat = (Int32.toNatClampNeg y41) + 1 from by omega, show y14.toInt.toNat = (Int32.toNatClampNeg y14) from rfl, ed9, ← List.append_assoc, VFO_a, stE_2 m29]; exact RFc.rg rf9 (by have h9 := t66; exact h9) (by rw [(funext (fun q => ajV67 20 q rfl) : V67 20 = V42 20)] : V67 20 = V42 20) (by rw [(funext (fun q => ajV67 19 q rfl) : V67 19 = V42 19)] : V67 19 = V42 19)) (show z70.toInt ≤ (((gs.2.1 2).length : Nat) : Int) from by first | exact om_bcda7a344117 ln f50 hz70 | first | omega | ((try (have i_rfq := Imp.go rfq (by omega))); (try (have i_hsv := Imp.go hsv (by omega))); (try (have i_gkl := Imp.go gkl (by omega))); (try (have i_wh := Imp.go wh (by omega))); first | omega | ((try (have i_coc := Imp.go coc (by omega))); (try (have i_coc := Imp.go coc (by omega))); (try (have i_wh := Imp.go wh (by omega))); (try (have i_gkl := Imp.go gkl (by omega))); (try (have i_hsv := Imp.go hsv (by omega))); (try (have i_rfq := Imp.go rfq (by omega))); omega))) (by first | exact om_9592d9319ffa hn hz70 | first | omega | ((try (have i_rfq := Imp.go rfq (by omega))); (try (have i_hsv := Imp.go hsv (by omega))); (try (have i_gkl := Imp.go gkl (by omega))); (try (have i_wh := Imp.go wh (by omega))); first | omega | ((try (have i_coc := Imp.go coc (by omega))); (try (have i_coc := Imp.go coc (by omega))); (try (have i_wh := Imp.go wh (by omega))); (try (have i_gkl := Imp.go gkl (by omega))); (try (have i_hsv := Imp.go hsv (by omega))); (try (have i_rfq := Imp.go rfq (by omega))); omega))) (agr.tr (agr.tr agr.rf ajV42 (by decide) (by decide)) ajV67 (by decide) (by decide)) hMV67 hP hD hS (lv_sub hl [0, 1, 2, 3, 4, 5] rfl)
                    · skip
                      have f72 : ((V42 20 (Int32.toNatClampNeg y41))).toInt = (-1) := b_eq rfl (by decide) c56
                      refine lv_aload_n hx hb dX2_follow_111 rfl (lv_at hl 3 rfl) ?_
                      obtain ⟨d9, rfl⟩ : ∃ d9, dd = d9 + 1 := ⟨dd - 1, by omega⟩
                      refine lv_iload hx hb dX2_follow_112 (lv_at hl 0 rfl) ?_
                      refine lv_iload_n hx hb dX2_follow_114 rfl (lv_at hl 5 rfl) ?_
                      refine lv_iconst (v := 1) hx hb dX2_follow_115 (by decide) ?_
                      refine lv_iadd hx hb dX2_follow_116 ?_
                      refine lv_topi (fun z73 ez73 => ?_)
                      have hz73 : z73.toInt = p1.toInt + 1 := i_add ez73 rfl (by decide) (by (first | exact om_bc9106cf44c9 rg_p1.1 f7 | omega))
                      have pq74 : (V42 43 (5 * b + 2)).toInt = ((V 43 (5 * b + 2))).toInt := congrArg Int32.toInt ((ajV42 43 (5 * b + 2) rfl).trans ((ajV15 43 (5 * b + 2) rfl).trans ((up2_o hV10 (by decide)).trans (up2_o hV8 (by decide)))))
                      refine gA_void (gA_runV (As := [.int y41, .int z73]) (rest := []) (ci := 2) (q0 := 2) hx hb hml hown hg hP hD hK hS hA hnw hgk ((hk_x_follow5 d9 rfl) H.size ad kk V42 L Z y41 z73 (b) (gs) ((Int32.toNatClampNeg y41)) (gv) ((VFO gs.1 gv (gs.2.1 2).length (24 - (dq + 1)) dq gP gk gM (edJ gs.1 gv (gs.2.1 2).length gk (Int32.toNatClampNeg y14) ++ edC gs.1 gv (gs.2.1 2).length gk (Int32.toNatClampNeg y14) (Int32.toNatClampNeg y41)))) ((upn gP dq gk)) (dq + 1) hMV42 (by first | omega | ((try (have i_rfq := Imp.go rfq (by omega))); (try (have i_hsv := Imp.go hsv (by omega))); (try (have i_gkl := Imp.go gkl (by omega))); (try (have i_wh := Imp.go wh (by omega))); first | omega | ((try (have i_coc := Imp.go coc (by omega))); (try (have i_coc := Imp.go coc (by omega))); (try (have i_wh := Imp.go wh (by omega))); (try (have i_gkl := Imp.go gkl (by omega))); (try (have i_hsv := Imp.go hsv (by omega))); (try (have i_rfq := Imp.go rfq (by omega))); omega))) (by first | omega | ((try (have i_rfq := Imp.go rfq (by omega))); (try (have i_hsv := Imp.go hsv (by omega))); (try (have i_gkl := Imp.go gkl (by omega))); (try (have i_wh := Imp.go wh (by omega))); first | omega | ((try (have i_coc := Imp.go coc (by omega))); (try (have i_coc := Imp.go coc (by omega))); (try (have i_wh := Imp.go wh (by omega))); (try (have i_gkl := Imp.go gkl (by omega))); (try (have i_hsv := Imp.go hsv (by omega))); (try (have i_rfq := Imp.go rfq (by omega))); omega))) (show b < 2 from by first | exact om_f940a4667dd6 hb2 | first | omega | ((try (have i_rfq := Imp.go rfq (by omega))); (try (have i_hsv := Imp.go hsv (by omega))); (try (have i_gkl := Imp.go gkl (by omega))); (try (have i_wh := Imp.go wh (by omega))); first | omega | ((try (have i_coc := Imp.go coc (by omega))); (try (have i_coc := Imp.go coc (by omega))); (try (have i_wh := Imp.go wh (by omega))); (try (have i_gkl := Imp.go gkl (by omega))); (try (have i_hsv := Imp.go hsv (by omega))); (try (have i_rfq := Imp.go rfq (by omega))); omega))) (show (V42 2 6).toInt = (b : Int) from by first | exact om_adf531c77a0d cbk pq45 | first | omega | ((try (have i_rfq := Imp.go rfq (by omega))); (try (have i_hsv := Imp.go hsv (by omega))); (try (have i_gkl := Imp.go gkl (by omega))); (try (have i_wh := Imp.go wh (by omega))); first | omega | ((try (have i_coc := Imp.go coc (by omega))); (try (have i_coc := Imp.go coc (by omega))); (try (have i_wh := Imp.go wh (by omega))); (try (have i_gkl := Imp.go gkl (by omega))); (try (have i_hsv := Imp.go hsv (by omega))); (try (have i_rfq := Imp.go rfq (by omega))); omega))) (show (V42 20 (Int32.toNatClampNeg y41)).toInt = -1 from by first | exact om_a870fdf34004 f72 | first | omega | ((try (have i_rfq := Imp.go rfq (by omega))); (try (have i_hsv := Imp.go hsv (by omega))); (try (have i_gkl := Imp.go gkl (by omega))); (try (have i_wh := Imp.go wh (by omega))); first | omega | ((try (have i_coc := Imp.go coc (by omega))); (try (have i_coc := Imp.go coc (by omega))); (try (have i_wh := Imp.go wh (by omega))); (try (have i_gkl := Imp.go gkl (by omega))); (try (have i_hsv := Imp.go hsv (by omega))); (try (have i_rfq := Imp.go rfq (by omega))); omega))) (show 24 - z73.toInt ≤ ((d9 : Nat) : Int) from by first | exact om_812883e71f9c y2 hz73 | first | omega | ((try (have i_rfq := Imp.go rfq (by omega))); (try (have i_hsv := Imp.go hsv (by omega))); (try (have i_gkl := Imp.go gkl (by omega))); (try (have i_wh := Imp.go wh (by omega))); first | omega | ((try (have i_coc := Imp.go coc (by omega))); (try (have i_coc := Imp.go coc (by omega))); (try (have i_wh := Imp.go wh (by omega))); (try (have i_gkl := Imp.go gkl (by omega))); (try (have i_hsv := Imp.go hsv (by omega))); (try (have i_rfq := Imp.go rfq (by omega))); omega))) (show (V42 2 7).toInt + 192 * (cx V42 24 : Int) ≤ 999000 from by first | exact om_e42a2877bcbe y3 ln ln2 r22.2 f30 xlp43_0 f50 | first | omega | ((try (have i_rfq := Imp.go rfq (by omega))); (try (have i_hsv := Imp.go hsv (by omega))); (try (have i_gkl := Imp.go gkl (by omega))); (try (have i_wh := Imp.go wh (by omega))); first | omega | ((try (have i_coc := Imp.go coc (by omega))); (try (have i_coc := Imp.go coc (by omega))); (try (have i_wh := Imp.go wh (by omega))); (try (have i_gkl := Imp.go gkl (by omega))); (try (have i_hsv := Imp.go hsv (by omega))); (try (have i_rfq := Imp.go rfq (by omega))); omega))) (show y41.toInt = (((Int32.toNatClampNeg y41) : Nat) : Int) from by first | exact om_dadc9969542e kd9 | first | omega | ((try (have i_rfq := Imp.go rfq (by omega))); (try (have i_hsv := Imp.go hsv (by omega))); (try (have i_gkl := Imp.go gkl (by omega))); (try (have i_wh := Imp.go wh (by omega))); first | omega | ((try (have i_coc := Imp.go coc (by omega))); (try (have i_coc := Imp.go coc (by omega))); (try (have i_wh := Imp.go wh (by omega))); (try (have i_gkl := Imp.go gkl (by omega))); (try (have i_hsv := Imp.go hsv (by omega))); (try (have i_rfq := Imp.go rfq (by omega))); omega))) (show z73.toInt = (((dq + 1) : Nat) : Int) from by first | exact om_6ff35234c20b pp hz73 | first | omega | ((try (have i_rfq := Imp.go rfq (by omega))); (try (have i_hsv := Imp.go hsv (by omega))); (try (have i_gkl := Imp.go gkl (by omega))); (try (have i_wh := Imp.go wh (by omega))); first | omega | ((try (have i_coc := Imp.go coc (by omega))); (try (have i_coc := Imp.go coc (by omega))); (try (have i_wh := Imp.go wh (by omega))); (try (have i_gkl := Imp.go gkl (by omega))); (try (have i_hsv := Imp.go hsv (by omega))); (try (have i_rfq := Imp.go rfq (by omega))); omega))) (COc.ag coc (by rw [(funext (fun q => ajV42 49 q rfl) : V42 49 = V15 49), (funext (fun q => ajV15 49 q rfl) : V15 49 = V10 49), (up2_fo hV10 (by decide) : V10 49 = V8 49), (up2_fo hV8 (by decide) : V8 49 = V 49)] : V42 49 = V 49) (by rw [(funext (fun q => ajV42 50 q rfl) : V42 50 = V15 50), (funext (fun q => ajV15 50 q rfl) : V15 50 = V10 50), (up2_fo hV10 (by decide) : V10 50 = V8 50), (up2_fo hV8 (by decide) : V8 50 = V 50)] : V42 50 = V 50) (by rw [(funext (fun q => ajV42 51 q rfl) : V42 51 = V15 51), (funext (fun q => ajV15 51 q rfl) : V15 51 = V10 51), (up2_fo hV10 (by decide) : V10 51 = V8 51), (up2_fo hV8 (by decide) : V8 51 = V 51)] : V42 51 = V 51) (by rw [(funext (fun q => ajV42 52 q rfl) : V42 52 = V15 52), (funext (fun q => ajV15 52 q rfl) : V15 52 = V10 52), (up2_fo hV10 (by decide) : V10 52 = V8 52), (up2_fo hV8 (by decide) : V8 52 = V 52)] : V42 52 = V 52) (by rw [(funext (fun q => ajV42 53 q rfl) : V42 53 = V15 53), (funext (fun q => ajV15 53 q rfl) : V15 53 = V10 53), (up2_fo hV10 (by decide) : V10 53 = V8 53), (up2_fo hV8 (by decide) : V8 53 = V 53)] : V42 53 = V 53) (by rw [(funext (fun q => ajV42 54 q rfl) : V42 54 = V15 54), (funext (fun q => ajV15 54 q rfl) : V15 54 = V10 54), (up2_fo hV10 (by decide) : V10 54 = V8 54), (up2_fo hV8 (by decide) : V8 54 = V 54)] : V42 54 = V 54) (by rw [(funext (fun q => ajV42 55 q rfl) : V42 55 = V15 55), (funext (fun q => ajV15 55 q rfl) : V15 55 = V10 55), (up2_fo hV10 (by decide) : V10 55 = V8 55), (up2_fo hV8 (by decide) : V8 55 = V 55)] : V42 55 = V 55) (by rw [(funext (fun q => ajV42 58 q rfl) : V42 58 = V15 58), (funext (fun q => ajV15 58 q rfl) : V15 58 = V10 58), (up2_fo hV10 (by decide) : V10 58 = V8 58), (up2_fo hV8 (by decide) : V8 58 = V 58)] : V42 58 = V 58) (by rw [(funext (fun q => ajV42 59 q rfl) : V42 59 = V15 59), (funext (fun q => ajV15 59 q rfl) : V15 59 = V10 59), (up2_fo hV10 (by decide) : V10 59 = V8 59), (up2_fo hV8 (by decide) : V8 59 = V 59)] : V42 59 = V 59) (by rw [(funext (fun q => ajV42 60 q rfl) : V42 60 = V15 60), (funext (fun q => ajV15 60 q rfl) : V15 60 = V10 60), (up2_fo hV10 (by decide) : V10 60 = V8 60), (up2_fo hV8 (by decide) : V8 60 = V 60)] : V42 60 = V 60)) wh dl9 (show (V42 43 (5 * b + 2)).toInt = (((gs.2.1 2).length : Nat) : Int) from by first | exact om_adf531c77a0d ln pq74 | first | omega | ((try (have i_rfq := Imp.go rfq (by omega))); (try (have i_hsv := Imp.go hsv (by omega))); (try (have i_gkl := Imp.go gkl (by omega))); (try (have i_wh := Imp.go wh (by omega))); first | omega | ((try (have i_coc := Imp.go coc (by omega))); (try (have i_coc := Imp.go coc (by omega))); (try (have i_wh := Imp.go wh (by omega))); (try (have i_gkl := Imp.go gkl (by omega))); (try (have i_hsv := Imp.go hsv (by omega))); (try (have i_rfq := Imp.go rfq (by omega))); omega))) (show (gs.2.1 2).length ≤ 24 from by first | exact om_6e1dcbb49536 ln2 | first | omega | ((try (have i_rfq := Imp.go rfq (by omega))); (try (have i_hsv := Imp.go hsv (by omega))); (try (have i_gkl := Imp.go gkl (by omega))); (try (have i_wh := Imp.go wh (by omega))); first | omega | ((try (have i_coc := Imp.go coc (by omega))); (try (have i_coc := Imp.go coc (by omega))); (try (have i_wh := Imp.go wh (by omega))); (try (have i_gkl := Imp.go gkl (by omega))); (try (have i_hsv := Imp.go hsv (by omega))); (try (have i_rfq := Imp.go rfq (by omega))); omega))) (svc_fo hsv (by rw [(funext (fun q => ajV42 46 q rfl) : V42 46 = V15 46), (funext (fun q => ajV15 46 q rfl) : V15 46 = V10 46), (up2_fo hV10 (by decide) : V10 46 = V8 46), (up2_fo hV8 (by decide) : V8 46 = V 46)] : V42 46 = V 46)) rf9) w1101 w1103 w38 w163 w1104 rfl xgChecker hdV_yX2_follow ⟨(by show 10 * d9 + 8 + 1 ≤ 10 * (d9 + 1) + 8; (first | exact om_be46aa8b5072 | omega)), (by show 8 + (6 + 11) + (300 * d9 + 260) ≤ 300 * (d9 + 1) + 260; (first | exact om_e96c281fab6d | omega))⟩ rfl hl.1 rfl (Nat.le_of_ble_eq_true rfl) dX2_follow_117 ⟨Nat.le_of_ble_eq_true rfl, Nat.le_of_ble_eq_true rfl⟩) hP hD hK hS hA (fun u76 H locs w77 hP hD hK hS => ?_)
                      obtain ⟨V82, L83⟩ := u76
                      obtain ⟨hMV82, ajV82, axL83, t78, t79, t80, t81⟩ := w77
                      have axL83 : L = L83 := Eq.symm axL83
                      subst axL83
                      have hP : va_P D vwCl (xw ad kk V82 L Z) H := hP
                      have hD : va_D A (xw ad kk V82 L Z) := hD
                      have hMV82 : rgd bX V82 := hMV82
                      have ajV82 : agr [(2, 7)] [15, 16, 17, 18, 19, 20] V42 V82 := ajV82
                      have agV82 : agr [(2, 7)] [15, 16, 17, 18, 19, 20] V V82 := agV42.tr ajV82 (by decide) (by decide)
                      have t78 : (V82 2 7).toInt + 192 * (cx V82 24 : Int) ≤ (V42 2 7).toInt + 192 * (cx V42 24 : Int) := t78
                      have t79 : (V42 2 7).toInt ≤ (V82 2 7).toInt := t79
                      have t80 : (∀ q : Nat, (V42 20 q).toInt ≠ -1 → (V82 20 q).toInt ≠ -1) := t80
                      have t81 : RFc V82 (gs.2.1 2).length (VIS gs.1 gv (gs.2.1 2).length (24 - (dq + 1)) (dq + 1) (upn gP dq gk) (Int32.toNatClampNeg y41) (VFO gs.1 gv (gs.2.1 2).length (24 - (dq + 1)) dq gP gk gM (edJ gs.1 gv (gs.2.1 2).length gk (Int32.toNatClampNeg y14) ++ edC gs.1 gv (gs.2.1 2).length gk (Int32.toNatClampNeg y14) (Int32.toNatClampNeg y41)))) (upn gP dq gk) (dq + 1) := t81
                      have r84 : 0 ≤ ((V82 2 7)).toInt ∧ ((V82 2 7)).toInt ≤ 1000000 := hMV82 2 7
                      refine lv_goto (tgt := 147) hx hb dX2_follow_120 (by decide) ?_
                      obtain ⟨z85, ez85⟩ : ∃ y : Int32, y = y41 + 1 := ⟨_, rfl⟩
                      have hz85 : z85.toInt = y41.toInt + 1 := i_add ez85 rfl (by decide) (by (first | exact om_046224c29f59 ln ln2 f50 kd9 | omega))
                      refine lv_iinc (v := z85) (lv' := [(5, .int z85), (4, .int z36), (3, .int y14), (0, .ref (ad 2)), (1, .int p0), (2, .int p1)]) hx hb dX2_follow_147 hl (k := 0) rfl (by rw [ez85]; rfl) (by decide) rfl (fun ls hl => ?_)
                      refine lv_goto (tgt := 72) hx hb dX2_follow_150 (by decide) ?_
                      exact ihlp43 z85 V82 H locs ls (by first | exact om_c6235c800f78 ln ln2 f50 kd9 hz85 | first | omega | ((try (have i_rfq := Imp.go rfq (by omega))); (try (have i_hsv := Imp.go hsv (by omega))); (try (have i_gkl := Imp.go gkl (by omega))); (try (have i_wh := Imp.go wh (by omega))); first | omega | ((try (have i_coc := Imp.go coc (by omega))); (try (have i_coc := Imp.go coc (by omega))); (try (have i_wh := Imp.go wh (by omega))); (try (have i_gkl := Imp.go gkl (by omega))); (try (have i_hsv := Imp.go hsv (by omega))); (try (have i_rfq := Imp.go rfq (by omega))); omega))) (show (V82 2 7).toInt + 192 * (cx V82 24 : Int) + 192 ≤ (V 2 7).toInt + 192 * (cx V 24 : Int) + 24 * y14.toInt + z85.toInt from by first | exact om_d0f4f3587dbd xlp43_0 t78 hz85 | first | omega | ((try (have i_rfq := Imp.go rfq (by omega))); (try (have i_hsv := Imp.go hsv (by omega))); (try (have i_gkl := Imp.go gkl (by omega))); (try (have i_wh := Imp.go wh (by omega))); first | omega | ((try (have i_coc := Imp.go coc (by omega))); (try (have i_coc := Imp.go coc (by omega))); (try (have i_wh := Imp.go wh (by omega))); (try (have i_gkl := Imp.go gkl (by omega))); (try (have i_hsv := Imp.go hsv (by omega))); (try (have i_rfq := Imp.go rfq (by omega))); omega))) (show (V 2 7).toInt ≤ (V82 2 7).toInt from by first | exact om_56aaaabe0a9d xlp43_1 t79 | first | omega | ((try (have i_rfq := Imp.go rfq (by omega))); (try (have i_hsv := Imp.go hsv (by omega))); (try (have i_gkl := Imp.go gkl (by omega))); (try (have i_wh := Imp.go wh (by omega))); first | omega | ((try (have i_coc := Imp.go coc (by omega))); (try (have i_coc := Imp.go coc (by omega))); (try (have i_wh := Imp.go wh (by omega))); (try (have i_gkl := Imp.go gkl (by omega))); (try (have i_hsv := Imp.go hsv (by omega))); (try (have i_rfq := Imp.go rfq (by omega))); omega))) (fun q hq => t80 q (xlp43_2 q hq)) (t80 _ xlp43_3) (by rw [show z85.toInt.toNat = (Int32.toNatClampNeg y41) + 1 from by omega, show y14.toInt.toNat = (Int32.toNatClampNeg y14) from rfl, ed9, ← List.append_assoc, VFO_a, stE_0 (by omega)]; exact t81) (show z85.toInt ≤ (((gs.2.1 2).length : Nat) : Int) from by first | exact om_bcda7a344117 ln f50 hz85 | first | omega | ((try (have i_rfq := Imp.go rfq (by omega))); (try (have i_hsv := Imp.go hsv (by omega))); (try (have i_gkl := Imp.go gkl (by omega))); (try (have i_wh := Imp.go wh (by omega))); first | omega | ((try (have i_coc := Imp.go coc (by omega))); (try (have i_coc := Imp.go coc (by omega))); (try (have i_wh := Imp.go wh (by omega))); (try (have i_gkl := Imp.go gkl (by omega))); (try (have i_hsv := Imp.go hsv (by omega))); (try (have i_rfq := Imp.go rfq (by omega))); omega))) (by first | exact om_9592d9319ffa hn hz85 | first | omega | ((try (have i_rfq := Imp.go rfq (by omega))); (try (have i_hsv := Imp.go hsv (by omega))); (try (have i_gkl := Imp.go gkl (by omega))); (try (have i_wh := Imp.go wh (by omega))); first | omega | ((try (have i_coc := Imp.go coc (by omega))); (try (have i_coc := Imp.go coc (by omega))); (try (have i_wh := Imp.go wh (by omega))); (try (have i_gkl := Imp.go gkl (by omega))); (try (have i_hsv := Imp.go hsv (by omega))); (try (have i_rfq := Imp.go rfq (by omega))); omega))) (agr.tr (agr.tr agr.rf ajV42 (by decide) (by decide)) ajV82 (by decide) (by decide)) hMV82 hP hD hS (lv_sub hl [0, 1, 2, 3, 4, 5] rfl)
                  · skip
                    have f86 : z52.toInt = 0 := b_eq rfl (by decide) c53
                    refine lv_goto (tgt := 147) hx hb dX2_follow_97 (by decide) ?_
                    obtain ⟨z87, ez87⟩ : ∃ y : Int32, y = y41 + 1 := ⟨_, rfl⟩
                    have hz87 : z87.toInt = y41.toInt + 1 := i_add ez87 rfl (by decide) (by (first | exact om_1496522b7eb5 ln ln2 klp43_0.1 f50 | omega))
                    refine lv_iinc (v := z87) (lv' := [(5, .int z87), (4, .int z36), (3, .int y14), (0, .ref (ad 2)), (1, .int p0), (2, .int p1)]) hx hb dX2_follow_147 hl (k := 0) rfl (by rw [ez87]; rfl) (by decide) rfl (fun ls hl => ?_)
                    refine lv_goto (tgt := 72) hx hb dX2_follow_150 (by decide) ?_
                    exact ihlp43 z87 V42 H locs ls (by first | exact om_71a9c3e930b1 ln ln2 klp43_0.1 f50 hz87 | first | omega | ((try (have i_rfq := Imp.go rfq (by omega))); (try (have i_hsv := Imp.go hsv (by omega))); (try (have i_gkl := Imp.go gkl (by omega))); (try (have i_wh := Imp.go wh (by omega))); first | omega | ((try (have i_coc := Imp.go coc (by omega))); (try (have i_coc := Imp.go coc (by omega))); (try (have i_wh := Imp.go wh (by omega))); (try (have i_gkl := Imp.go gkl (by omega))); (try (have i_hsv := Imp.go hsv (by omega))); (try (have i_rfq := Imp.go rfq (by omega))); omega))) (show (V42 2 7).toInt + 192 * (cx V42 24 : Int) + 192 ≤ (V 2 7).toInt + 192 * (cx V 24 : Int) + 24 * y14.toInt + z87.toInt from by first | exact om_c6c0086499f2 xlp43_0 hz87 | first | omega | ((try (have i_rfq := Imp.go rfq (by omega))); (try (have i_hsv := Imp.go hsv (by omega))); (try (have i_gkl := Imp.go gkl (by omega))); (try (have i_wh := Imp.go wh (by omega))); first | omega | ((try (have i_coc := Imp.go coc (by omega))); (try (have i_coc := Imp.go coc (by omega))); (try (have i_wh := Imp.go wh (by omega))); (try (have i_gkl := Imp.go gkl (by omega))); (try (have i_hsv := Imp.go hsv (by omega))); (try (have i_rfq := Imp.go rfq (by omega))); omega))) (show (V 2 7).toInt ≤ (V42 2 7).toInt from by first | exact om_f4906d00fa52 xlp43_1 | first | omega | ((try (have i_rfq := Imp.go rfq (by omega))); (try (have i_hsv := Imp.go hsv (by omega))); (try (have i_gkl := Imp.go gkl (by omega))); (try (have i_wh := Imp.go wh (by omega))); first | omega | ((try (have i_coc := Imp.go coc (by omega))); (try (have i_coc := Imp.go coc (by omega))); (try (have i_wh := Imp.go wh (by omega))); (try (have i_gkl := Imp.go gkl (by omega))); (try (have i_hsv := Imp.go hsv (by omega))); (try (have i_rfq := Imp.go rfq (by omega))); omega))) xlp43_2 xlp43_3 (by rw [show z87.toInt.toNat = (Int32.toNatClampNeg y41) + 1 from by omega, show y14.toInt.toNat = (Int32.toNatClampNeg y14) from rfl, EFD.n ef40 dl9 (lb9.mp (by omega))]; exact xlp43_4) (show z87.toInt ≤ (((gs.2.1 2).length : Nat) : Int) from by first | exact om_bcda7a344117 ln f50 hz87 | first | omega | ((try (have i_rfq := Imp.go rfq (by omega))); (try (have i_hsv := Imp.go hsv (by omega))); (try (have i_gkl := Imp.go gkl (by omega))); (try (have i_wh := Imp.go wh (by omega))); first | omega | ((try (have i_coc := Imp.go coc (by omega))); (try (have i_coc := Imp.go coc (by omega))); (try (have i_wh := Imp.go wh (by omega))); (try (have i_gkl := Imp.go gkl (by omega))); (try (have i_hsv := Imp.go hsv (by omega))); (try (have i_rfq := Imp.go rfq (by omega))); omega))) (by first | exact om_9592d9319ffa hn hz87 | first | omega | ((try (have i_rfq := Imp.go rfq (by omega))); (try (have i_hsv := Imp.go hsv (by omega))); (try (have i_gkl := Imp.go gkl (by omega))); (try (have i_wh := Imp.go wh (by omega))); first | omega | ((try (have i_coc := Imp.go coc (by omega))); (try (have i_coc := Imp.go coc (by omega))); (try (have i_wh := Imp.go wh (by omega))); (try (have i_gkl := Imp.go gkl (by omega))); (try (have i_hsv := Imp.go hsv (by omega))); (try (have i_rfq := Imp.go rfq (by omega))); omega))) (agr.tr agr.rf ajV42 (by decide) (by decide)) hMV42 hP hD hS (lv_sub hl [0, 1, 2, 3, 4, 5] rfl)
            have r88 : Int32.toInt 0 = 0 := by decide
            exact lp43 ((24 - (Int32.toInt 0) + 1 : Int).toNat) 0 V15 H locs ls (by decide) (show (V15 2 7).toInt + 192 * (cx V15 24 : Int) + 192 ≤ (V 2 7).toInt + 192 * (cx V 24 : Int) + 24 * y14.toInt + (Int32.toInt 0) from by first | exact om_b26a2f547375 xlp16_0 r88 | first | omega | ((try (have i_rfq := Imp.go rfq (by omega))); (try (have i_hsv := Imp.go hsv (by omega))); (try (have i_gkl := Imp.go gkl (by omega))); (try (have i_wh := Imp.go wh (by omega))); first | omega | ((try (have i_coc := Imp.go coc (by omega))); (try (have i_coc := Imp.go coc (by omega))); (try (have i_wh := Imp.go wh (by omega))); (try (have i_gkl := Imp.go gkl (by omega))); (try (have i_hsv := Imp.go hsv (by omega))); (try (have i_rfq := Imp.go rfq (by omega))); omega))) (show (V 2 7).toInt ≤ (V15 2 7).toInt from by first | exact om_f4906d00fa52 xlp16_1 | first | omega | ((try (have i_rfq := Imp.go rfq (by omega))); (try (have i_hsv := Imp.go hsv (by omega))); (try (have i_gkl := Imp.go gkl (by omega))); (try (have i_wh := Imp.go wh (by omega))); first | omega | ((try (have i_coc := Imp.go coc (by omega))); (try (have i_coc := Imp.go coc (by omega))); (try (have i_wh := Imp.go wh (by omega))); (try (have i_gkl := Imp.go gkl (by omega))); (try (have i_hsv := Imp.go hsv (by omega))); (try (have i_rfq := Imp.go rfq (by omega))); omega))) xlp16_2 xlp16_3 (by rw [show (Int32.toInt 0).toNat = 0 from by decide, edC_0, List.append_nil]; exact xlp16_4) (show (Int32.toInt 0) ≤ (((gs.2.1 2).length : Nat) : Int) from by first | exact om_3f7d4d3a7b74 gkl r88 | first | omega | ((try (have i_rfq := Imp.go rfq (by omega))); (try (have i_hsv := Imp.go hsv (by omega))); (try (have i_gkl := Imp.go gkl (by omega))); (try (have i_wh := Imp.go wh (by omega))); first | omega | ((try (have i_coc := Imp.go coc (by omega))); (try (have i_coc := Imp.go coc (by omega))); (try (have i_wh := Imp.go wh (by omega))); (try (have i_gkl := Imp.go gkl (by omega))); (try (have i_hsv := Imp.go hsv (by omega))); (try (have i_rfq := Imp.go rfq (by omega))); omega))) (by first | exact om_817980d3aa47 | first | omega | ((try (have i_rfq := Imp.go rfq (by omega))); (try (have i_hsv := Imp.go hsv (by omega))); (try (have i_gkl := Imp.go gkl (by omega))); (try (have i_wh := Imp.go wh (by omega))); first | omega | ((try (have i_coc := Imp.go coc (by omega))); (try (have i_coc := Imp.go coc (by omega))); (try (have i_wh := Imp.go wh (by omega))); (try (have i_gkl := Imp.go gkl (by omega))); (try (have i_hsv := Imp.go hsv (by omega))); (try (have i_rfq := Imp.go rfq (by omega))); omega))) agr.rf hMV15 hP hD hS (lv_sub hl [0, 1, 2, 3, 4, 5] rfl)
          · skip
            have f89 : ((V 60 (8 * (24 * b + (Int32.toNatClampNeg p0)) + (Int32.toNatClampNeg y14)))).toInt = 1 := b_eq rfl (by decide) c33
            refine lv_iconst (v := 0) hx hb dX2_follow_57 (by decide) ?_
            refine lv_goto (tgt := 67) hx hb dX2_follow_58 (by decide) ?_
            refine lv_istore (lv' := [(4, .int 0), (3, .int y14), (0, .ref (ad 2)), (1, .int p0), (2, .int p1)]) hx hb dX2_follow_67 hl (by decide) rfl (fun ls hl => ?_)
            have ef90 : EFD 0 gs.1 gv (gs.2.1 2).length gk (Int32.toNatClampNeg y14) := EFD.z (Or.inl (by omega))
            refine lv_iconst (v := 0) hx hb dX2_follow_69 (by decide) ?_
            refine lv_istore (lv' := [(5, .int 0), (4, .int 0), (3, .int y14), (0, .ref (ad 2)), (1, .int p0), (2, .int p1)]) hx hb dX2_follow_70 hl (by decide) rfl (fun ls hl => ?_)
            have lp93 : ∀ (fulp93 : Nat) (y91 : Int32) (V92 : Vf) (H : Heap) (locs : List Loc) (ls : Array Slot), 0 ≤ y91.toInt ∧ y91.toInt ≤ 24 → (V92 2 7).toInt + 192 * (cx V92 24 : Int) + 192 ≤ (V 2 7).toInt + 192 * (cx V 24 : Int) + 24 * y14.toInt + y91.toInt → (V 2 7).toInt ≤ (V92 2 7).toInt → (∀ q : Nat, (V 20 q).toInt ≠ -1 → (V92 20 q).toInt ≠ -1) → (V92 20 (Int32.toNatClampNeg p0)).toInt ≠ -1 → (RFc V92 (gs.2.1 2).length (VFO gs.1 gv (gs.2.1 2).length (24 - (dq + 1)) dq gP gk gM (edJ gs.1 gv (gs.2.1 2).length gk y14.toInt.toNat ++ edC gs.1 gv (gs.2.1 2).length gk y14.toInt.toNat y91.toInt.toNat)) (upn gP dq gk) (dq + 1)) → y91.toInt ≤ (((gs.2.1 2).length : Nat) : Int) → 24 - y91.toInt < (fulp93 : Int) → agr [(2, 7)] [15, 16, 17, 18, 19, 20] V15 V92 → rgd bX V92 → va_P D vwCl (xw ad kk V92 L Z) H → va_D A (xw ad kk V92 L Z) → va_S A s.heap H locs → lv_has ls 6 [(5, .int y91), (4, .int 0), (3, .int y14), (0, .ref (ad 2)), (1, .int p0), (2, .int p1)] → W p l e (rK 8 260 dd) s m ([.ref (ad 2), .int p0, .int p1] : List Value).toArray below meth c H locs 0 0 (MQ below (q_x_follow5 D ks ad kk V L Z p0 p1 b gs gk gv gM gP dq A) ([.ref (ad 2), .int p0, .int p1] : List Value).toArray s 0 0 A) (F0 m 72 ls []) := by
              intro fulp93
              induction fulp93 with
              | zero =>
                intro y91 V92 H locs ls klp93_0 xlp93_0 xlp93_1 xlp93_2 xlp93_3 xlp93_4 xlp93_5 hn ajV92 hMV92 hP hD hS hl
                exfalso; (first | exact om_9386ef0df612 klp93_0.2 hn | omega)
              | succ fulp93 ihlp93 =>
                intro y91 V92 H locs ls klp93_0 xlp93_0 xlp93_1 xlp93_2 xlp93_3 xlp93_4 xlp93_5 hn ajV92 hMV92 hP hD hS hl
                have agV92 : agr [(2, 7)] [15, 16, 17, 18, 19, 20] V V92 := agV15.tr ajV92 (by decide) (by decide)
                have r94 : 0 ≤ ((V92 2 7)).toInt ∧ ((V92 2 7)).toInt ≤ 1000000 := hMV92 2 7
                refine lv_iload hx hb dX2_follow_72 (lv_at hl 0 rfl) ?_
                refine lv_aload_n hx hb dX2_follow_74 rfl (lv_at hl 3 rfl) ?_
                refine va_get (D := D) (ci := 2) (v := rfN ad 38 (V92 2 6)) (fs := (xfChecker ad V92 L Z)) (C := RX2) (T := TX2) (N := 8) hx hb hg inX2 hown hK hP 2 xgChecker rfl 6 (by decide) (hg _ w344) (fun _ h9 => h9) rfl dX2_follow_75 ?_
                have pq95 : (V92 2 6).toInt = ((V 2 6)).toInt := congrArg Int32.toInt ((ajV92 2 6 rfl).trans ((ajV15 2 6 rfl).trans ((up2_o hV10 (by decide)).trans (up2_o hV8 (by decide)))))
                refine g_topv (v := .ref (ad (38 + b))) (rfN_r (by first | omega | ((try (have i_rfq := Imp.go rfq (by omega))); (try (have i_hsv := Imp.go hsv (by omega))); (try (have i_gkl := Imp.go gkl (by omega))); (try (have i_wh := Imp.go wh (by omega))); first | omega | ((try (have i_coc := Imp.go coc (by omega))); (try (have i_coc := Imp.go coc (by omega))); (try (have i_wh := Imp.go wh (by omega))); (try (have i_gkl := Imp.go gkl (by omega))); (try (have i_hsv := Imp.go hsv (by omega))); (try (have i_rfq := Imp.go rfq (by omega))); omega)))) ?_
                refine va_getN (D := D) (ci := 0) (v := .ref (ad (40 + (5 * b + 2)))) (fs := (xfBook ad V92 b)) (C := RX0) (T := TX0) (N := 13) hx hb hg inX0 hown hK hP (38 + b) (xgBook hb2) rfl 2 (by decide) (hnw.use 600 n600 rfl) (fun _ h9 => h9) rfl dX2_follow_78 ?_
                have il96 : (5 * b + 2) < 10 := by first | exact om_1478e52fbf50 hb2 | first | omega | ((try (have i_rfq := Imp.go rfq (by omega))); (try (have i_hsv := Imp.go hsv (by omega))); (try (have i_gkl := Imp.go gkl (by omega))); (try (have i_wh := Imp.go wh (by omega))); first | omega | ((try (have i_coc := Imp.go coc (by omega))); (try (have i_coc := Imp.go coc (by omega))); (try (have i_wh := Imp.go wh (by omega))); (try (have i_gkl := Imp.go gkl (by omega))); (try (have i_hsv := Imp.go hsv (by omega))); (try (have i_rfq := Imp.go rfq (by omega))); omega))
                refine va_getN (D := D) (ci := 6) (v := .int (V92 43 (5 * b + 2))) (fs := (xfNames ad V92 (5 * b + 2))) (C := RX6) (T := TX6) (N := 2) hx hb hg inX6 hown hK hP (40 + (5 * b + 2)) (xgNames il96) rfl 1 (by decide) (hnw.use 482 n482 rfl) (fun _ h9 => h9) rfl dX2_follow_81 ?_
                refine g_top (v := (V 43 (5 * b + 2))) ((ajV92 43 (5 * b + 2) rfl).trans ((ajV15 43 (5 * b + 2) rfl).trans ((up2_o hV10 (by decide)).trans (up2_o hV8 (by decide))))) ?_
                refine lv_icmp_ge (tgt := 153) hx hb dX2_follow_84 (by decide) (fun c97 => ?_) (fun c97 => ?_)
                · skip
                  have f98 : ((V 43 (5 * b + 2))).toInt ≤ y91.toInt := b_le rfl rfl c97
                  obtain ⟨z99, ez99⟩ : ∃ y : Int32, y = y14 + 1 := ⟨_, rfl⟩
                  have hz99 : z99.toInt = y14.toInt + 1 := i_add ez99 rfl (by decide) (by (first | exact om_56ff1e099a1d klp16_0.1 r22.2 f30 | omega))
                  refine lv_iinc (v := z99) (lv' := [(3, .int z99), (5, .int y91), (4, .int 0), (0, .ref (ad 2)), (1, .int p0), (2, .int p1)]) hx hb dX2_follow_153 hl (k := 2) rfl (by rw [ez99]; rfl) (by decide) rfl (fun ls hl => ?_)
                  refine lv_goto (tgt := 23) hx hb dX2_follow_156 (by decide) ?_
                  have r100 : Int32.toInt 0 = 0 := by decide
                  exact ihlp16 z99 V92 H locs ls (by first | exact om_7c19206264d1 klp16_0.1 r22.2 f30 hz99 | first | omega | ((try (have i_rfq := Imp.go rfq (by omega))); (try (have i_hsv := Imp.go hsv (by omega))); (try (have i_gkl := Imp.go gkl (by omega))); (try (have i_wh := Imp.go wh (by omega))); first | omega | ((try (have i_coc := Imp.go coc (by omega))); (try (have i_coc := Imp.go coc (by omega))); (try (have i_wh := Imp.go wh (by omega))); (try (have i_gkl := Imp.go gkl (by omega))); (try (have i_hsv := Imp.go hsv (by omega))); (try (have i_rfq := Imp.go rfq (by omega))); omega))) (show (V92 2 7).toInt + 192 * (cx V92 24 : Int) + 192 ≤ (V 2 7).toInt + 192 * (cx V 24 : Int) + 24 * z99.toInt from by first | exact om_183a7b9b545d ln r4.2 r5 xlp93_0 xlp93_5 hz99 | first | omega | ((try (have i_rfq := Imp.go rfq (by omega))); (try (have i_hsv := Imp.go hsv (by omega))); (try (have i_gkl := Imp.go gkl (by omega))); (try (have i_wh := Imp.go wh (by omega))); first | omega | ((try (have i_coc := Imp.go coc (by omega))); (try (have i_coc := Imp.go coc (by omega))); (try (have i_wh := Imp.go wh (by omega))); (try (have i_gkl := Imp.go gkl (by omega))); (try (have i_hsv := Imp.go hsv (by omega))); (try (have i_rfq := Imp.go rfq (by omega))); omega))) (show (V 2 7).toInt ≤ (V92 2 7).toInt from by first | exact om_f4906d00fa52 xlp93_1 | first | omega | ((try (have i_rfq := Imp.go rfq (by omega))); (try (have i_hsv := Imp.go hsv (by omega))); (try (have i_gkl := Imp.go gkl (by omega))); (try (have i_wh := Imp.go wh (by omega))); first | omega | ((try (have i_coc := Imp.go coc (by omega))); (try (have i_coc := Imp.go coc (by omega))); (try (have i_wh := Imp.go wh (by omega))); (try (have i_gkl := Imp.go gkl (by omega))); (try (have i_hsv := Imp.go hsv (by omega))); (try (have i_rfq := Imp.go rfq (by omega))); omega))) xlp93_2 xlp93_3 (by have h9 := xlp93_4; rw [show y91.toInt.toNat = (gs.2.1 2).length from by omega] at h9; rw [show z99.toInt.toNat = (Int32.toNatClampNeg y14) + 1 from by omega]; exact h9) (show z99.toInt ≤ ((gs.1 (66 + 8 * gk) : Nat) : Int) from by first | exact om_bcda7a344117 h49 f30 hz99 | first | omega | ((try (have i_rfq := Imp.go rfq (by omega))); (try (have i_hsv := Imp.go hsv (by omega))); (try (have i_gkl := Imp.go gkl (by omega))); (try (have i_wh := Imp.go wh (by omega))); first | omega | ((try (have i_coc := Imp.go coc (by omega))); (try (have i_coc := Imp.go coc (by omega))); (try (have i_wh := Imp.go wh (by omega))); (try (have i_gkl := Imp.go gkl (by omega))); (try (have i_hsv := Imp.go hsv (by omega))); (try (have i_rfq := Imp.go rfq (by omega))); omega))) (by first | omega | ((try (have i_rfq := Imp.go rfq (by omega))); (try (have i_hsv := Imp.go hsv (by omega))); (try (have i_gkl := Imp.go gkl (by omega))); (try (have i_wh := Imp.go wh (by omega))); first | omega | ((try (have i_coc := Imp.go coc (by omega))); (try (have i_coc := Imp.go coc (by omega))); (try (have i_wh := Imp.go wh (by omega))); (try (have i_gkl := Imp.go gkl (by omega))); (try (have i_hsv := Imp.go hsv (by omega))); (try (have i_rfq := Imp.go rfq (by omega))); omega))) (agr.tr (agr.tr agr.rf ajV15 (by decide) (by decide)) ajV92 (by decide) (by decide)) hMV92 hP hD hS (lv_sub hl [0, 3, 4, 5] rfl)
                · skip
                  have f101 : y91.toInt < ((V 43 (5 * b + 2))).toInt := b_nle rfl rfl c97
                  have kd9 := i_clamp (x := y91) rfl (by (first | exact om_eafa9039069c klp93_0.1 | omega))
                  have dl9 : (Int32.toNatClampNeg y91) < (gs.2.1 2).length := by (first | exact om_e51872d74568 ln f101 kd9 | omega)
                  refine lv_iload hx hb dX2_follow_87 (lv_at hl 1 rfl) ?_
                  refine lv_iload hx hb dX2_follow_89 (lv_at hl 0 rfl) ?_
                  refine lv_ishr hx hb dX2_follow_91 ?_
                  refine lv_topi (fun z102 ez102 => ?_)
                  refine lv_iconst (v := 1) hx hb dX2_follow_92 (by decide) ?_
                  refine lv_iand hx hb dX2_follow_93 ?_
                  refine lv_topi (fun z103 ez103 => ?_)
                  have hz103 : 0 ≤ z103.toInt ∧ z103.toInt ≤ 1 := and_m ez103 (by decide)
                  have lb9 : z103.toInt = 0 ↔ bt 0 (Int32.toNatClampNeg y91) = false := lb_get ez102 ez103 (show y91.toInt = (((Int32.toNatClampNeg y91) : Nat) : Int) from by (first | exact om_dadc9969542e kd9 | omega)) (by omega)
                  refine lv_if_ne (tgt := 100) hx hb dX2_follow_94 (by decide) (fun c104 => ?_) (fun c104 => ?_)
                  · skip
                    have f105 : z103.toInt ≠ 0 := b_neq rfl (by decide) c104
                    have bt9 : bt 0 (Int32.toNatClampNeg y91) = true := by cases e9 : bt 0 (Int32.toNatClampNeg y91); exact absurd (lb9.mpr e9) (by omega); rfl
                    have ed9 := EFD.y ef90 dl9 bt9
                    have rf9 : RFc V92 (gs.2.1 2).length (VFO gs.1 gv (gs.2.1 2).length (24 - (dq + 1)) dq gP gk gM (edJ gs.1 gv (gs.2.1 2).length gk (Int32.toNatClampNeg y14) ++ edC gs.1 gv (gs.2.1 2).length gk (Int32.toNatClampNeg y14) (Int32.toNatClampNeg y91))) (upn gP dq gk) (dq + 1) := xlp93_4
                    have mk9 := rf9.2.1 (Int32.toNatClampNeg y91) dl9
                    unfold MKc at mk9
                    have r106 : (-2) ≤ ((V92 20 (Int32.toNatClampNeg y91))).toInt ∧ ((V92 20 (Int32.toNatClampNeg y91))).toInt ≤ 23 := hMV92 20 (Int32.toNatClampNeg y91)
                    refine lv_aload_n hx hb dX2_follow_100 rfl (lv_at hl 3 rfl) ?_
                    refine va_get (D := D) (ci := 2) (v := .ref (ad 17)) (fs := (xfChecker ad V92 L Z)) (C := RX2) (T := TX2) (N := 8) hx hb hg inX2 hown hK hP 2 xgChecker rfl 5 (by decide) (hg _ w343) (fun _ h9 => h9) rfl dX2_follow_101 ?_
                    refine lv_iload hx hb dX2_follow_104 (lv_at hl 0 rfl) ?_
                    refine va_iald (D := D) (i := y91) hx hb hK hP 17 10 rfl rfl (i_in (a := y91.toInt) rfl (by first | exact om_67de8ba3d9bb ln ln2 klp93_0.1 f101 | first | omega | ((try (have i_rfq := Imp.go rfq (by omega))); (try (have i_hsv := Imp.go hsv (by omega))); (try (have i_gkl := Imp.go gkl (by omega))); (try (have i_wh := Imp.go wh (by omega))); first | omega | ((try (have i_coc := Imp.go coc (by omega))); (try (have i_coc := Imp.go coc (by omega))); (try (have i_wh := Imp.go wh (by omega))); (try (have i_gkl := Imp.go gkl (by omega))); (try (have i_hsv := Imp.go hsv (by omega))); (try (have i_rfq := Imp.go rfq (by omega))); omega)))) dX2_follow_106 ?_
                    refine lv_iconst (v := (-1)) hx hb dX2_follow_107 (by decide) ?_
                    refine lv_icmp_ne (tgt := 123) hx hb dX2_follow_108 (by decide) (fun c107 => ?_) (fun c107 => ?_)
                    · skip
                      have f108 : ((V92 20 (Int32.toNatClampNeg y91))).toInt ≠ (-1) := b_neq rfl (by decide) c107
                      refine lv_aload_n hx hb dX2_follow_123 rfl (lv_at hl 3 rfl) ?_
                      refine va_get (D := D) (ci := 2) (v := .ref (ad 17)) (fs := (xfChecker ad V92 L Z)) (C := RX2) (T := TX2) (N := 8) hx hb hg inX2 hown hK hP 2 xgChecker rfl 5 (by decide) (hg _ w343) (fun _ h9 => h9) rfl dX2_follow_124 ?_
                      refine lv_iload hx hb dX2_follow_127 (lv_at hl 0 rfl) ?_
                      refine va_iald (D := D) (i := y91) hx hb hK hP 17 10 rfl rfl (i_in (a := y91.toInt) rfl (by first | exact om_67de8ba3d9bb ln ln2 klp93_0.1 f101 | first | omega | ((try (have i_rfq := Imp.go rfq (by omega))); (try (have i_hsv := Imp.go hsv (by omega))); (try (have i_gkl := Imp.go gkl (by omega))); (try (have i_wh := Imp.go wh (by omega))); first | omega | ((try (have i_coc := Imp.go coc (by omega))); (try (have i_coc := Imp.go coc (by omega))); (try (have i_wh := Imp.go wh (by omega))); (try (have i_gkl := Imp.go gkl (by omega))); (try (have i_hsv := Imp.go hsv (by omega))); (try (have i_rfq := Imp.go rfq (by omega))); omega)))) dX2_follow_129 ?_
                      refine lv_bipush (v := (-2)) hx hb dX2_follow_130 (by decide) ?_
                      refine lv_icmp_eq (tgt := 147) hx hb dX2_follow_132 (by decide) (fun c109 => ?_) (fun c109 => ?_)
                      · skip
                        have f110 : ((V92 20 (Int32.toNatClampNeg y91))).toInt = (-2) := b_eq rfl (by decide) c109
                        obtain ⟨z111, ez111⟩ : ∃ y : Int32, y = y91 + 1 := ⟨_, rfl⟩
                        have hz111 : z111.toInt = y91.toInt + 1 := i_add ez111 rfl (by decide) (by (first | exact om_1496522b7eb5 ln ln2 klp93_0.1 f101 | omega))
                        refine lv_iinc (v := z111) (lv' := [(5, .int z111), (4, .int 0), (3, .int y14), (0, .ref (ad 2)), (1, .int p0), (2, .int p1)]) hx hb dX2_follow_147 hl (k := 0) rfl (by rw [ez111]; rfl) (by decide) rfl (fun ls hl => ?_)
                        refine lv_goto (tgt := 72) hx hb dX2_follow_150 (by decide) ?_
                        have r112 : Int32.toInt 0 = 0 := by decide
                        exact ihlp93 z111 V92 H locs ls (by first | exact om_71a9c3e930b1 ln ln2 klp93_0.1 f101 hz111 | first | omega | ((try (have i_rfq := Imp.go rfq (by omega))); (try (have i_hsv := Imp.go hsv (by omega))); (try (have i_gkl := Imp.go gkl (by omega))); (try (have i_wh := Imp.go wh (by omega))); first | omega | ((try (have i_coc := Imp.go coc (by omega))); (try (have i_coc := Imp.go coc (by omega))); (try (have i_wh := Imp.go wh (by omega))); (try (have i_gkl := Imp.go gkl (by omega))); (try (have i_hsv := Imp.go hsv (by omega))); (try (have i_rfq := Imp.go rfq (by omega))); omega))) (show (V92 2 7).toInt + 192 * (cx V92 24 : Int) + 192 ≤ (V 2 7).toInt + 192 * (cx V 24 : Int) + 24 * y14.toInt + z111.toInt from by first | exact om_c6c0086499f2 xlp93_0 hz111 | first | omega | ((try (have i_rfq := Imp.go rfq (by omega))); (try (have i_hsv := Imp.go hsv (by omega))); (try (have i_gkl := Imp.go gkl (by omega))); (try (have i_wh := Imp.go wh (by omega))); first | omega | ((try (have i_coc := Imp.go coc (by omega))); (try (have i_coc := Imp.go coc (by omega))); (try (have i_wh := Imp.go wh (by omega))); (try (have i_gkl := Imp.go gkl (by omega))); (try (have i_hsv := Imp.go hsv (by omega))); (try (have i_rfq := Imp.go rfq (by omega))); omega))) (show (V 2 7).toInt ≤ (V92 2 7).toInt from by first | exact om_f4906d00fa52 xlp93_1 | first | omega | ((try (have i_rfq := Imp.go rfq (by omega))); (try (have i_hsv := Imp.go hsv (by omega))); (try (have i_gkl := Imp.go gkl (by omega))); (try (have i_wh := Imp.go wh (by omega))); first | omega | ((try (have i_coc := Imp.go coc (by omega))); (try (have i_coc := Imp.go coc (by omega))); (try (have i_wh := Imp.go wh (by omega))); (try (have i_gkl := Imp.go gkl (by omega))); (try (have i_hsv := Imp.go hsv (by omega))); (try (have i_rfq := Imp.go rfq (by omega))); omega))) xlp93_2 xlp93_3 (by rw [show z111.toInt.toNat = (Int32.toNatClampNeg y91) + 1 from by omega, show y14.toInt.toNat = (Int32.toNatClampNeg y14) from rfl, ed9, ← List.append_assoc, VFO_a, stE_1 (by omega)]; exact rf9) (show z111.toInt ≤ (((gs.2.1 2).length : Nat) : Int) from by first | exact om_bcda7a344117 ln f101 hz111 | first | omega | ((try (have i_rfq := Imp.go rfq (by omega))); (try (have i_hsv := Imp.go hsv (by omega))); (try (have i_gkl := Imp.go gkl (by omega))); (try (have i_wh := Imp.go wh (by omega))); first | omega | ((try (have i_coc := Imp.go coc (by omega))); (try (have i_coc := Imp.go coc (by omega))); (try (have i_wh := Imp.go wh (by omega))); (try (have i_gkl := Imp.go gkl (by omega))); (try (have i_hsv := Imp.go hsv (by omega))); (try (have i_rfq := Imp.go rfq (by omega))); omega))) (by first | exact om_9592d9319ffa hn hz111 | first | omega | ((try (have i_rfq := Imp.go rfq (by omega))); (try (have i_hsv := Imp.go hsv (by omega))); (try (have i_gkl := Imp.go gkl (by omega))); (try (have i_wh := Imp.go wh (by omega))); first | omega | ((try (have i_coc := Imp.go coc (by omega))); (try (have i_coc := Imp.go coc (by omega))); (try (have i_wh := Imp.go wh (by omega))); (try (have i_gkl := Imp.go gkl (by omega))); (try (have i_hsv := Imp.go hsv (by omega))); (try (have i_rfq := Imp.go rfq (by omega))); omega))) (agr.tr agr.rf ajV92 (by decide) (by decide)) hMV92 hP hD hS (lv_sub hl [0, 1, 2, 3, 4, 5] rfl)
                      · skip
                        have f113 : ((V92 20 (Int32.toNatClampNeg y91))).toInt ≠ (-2) := b_neq rfl (by decide) c109
                        have m29 : 2 ≤ (VFO gs.1 gv (gs.2.1 2).length (24 - (dq + 1)) dq gP gk gM (edJ gs.1 gv (gs.2.1 2).length gk (Int32.toNatClampNeg y14) ++ edC gs.1 gv (gs.2.1 2).length gk (Int32.toNatClampNeg y14) (Int32.toNatClampNeg y91))).1 (Int32.toNatClampNeg y91) := by omega
                        have pw9 := rf9.2.2.2.1 (Int32.toNatClampNeg y91) m29
                        refine lv_aload_n hx hb dX2_follow_135 rfl (lv_at hl 3 rfl) ?_
                        refine lv_aload_n hx hb dX2_follow_136 rfl (lv_at hl 3 rfl) ?_
                        refine va_get (D := D) (ci := 2) (v := .ref (ad 17)) (fs := (xfChecker ad V92 L Z)) (C := RX2) (T := TX2) (N := 8) hx hb hg inX2 hown hK hP 2 xgChecker rfl 5 (by decide) (hg _ w343) (fun _ h9 => h9) rfl dX2_follow_137 ?_
                        refine lv_iload hx hb dX2_follow_140 (lv_at hl 0 rfl) ?_
                        refine va_iald (D := D) (i := y91) hx hb hK hP 17 10 rfl rfl (i_in (a := y91.toInt) rfl (by first | exact om_67de8ba3d9bb ln ln2 klp93_0.1 f101 | first | omega | ((try (have i_rfq := Imp.go rfq (by omega))); (try (have i_hsv := Imp.go hsv (by omega))); (try (have i_gkl := Imp.go gkl (by omega))); (try (have i_wh := Imp.go wh (by omega))); first | omega | ((try (have i_coc := Imp.go coc (by omega))); (try (have i_coc := Imp.go coc (by omega))); (try (have i_wh := Imp.go wh (by omega))); (try (have i_gkl := Imp.go gkl (by omega))); (try (have i_hsv := Imp.go hsv (by omega))); (try (have i_rfq := Imp.go rfq (by omega))); omega)))) dX2_follow_142 ?_
                        refine lv_iload_n hx hb dX2_follow_143 rfl (lv_at hl 5 rfl) ?_
                        refine gA_void (gA_runV (As := [.int (V92 20 (Int32.toNatClampNeg y91)), .int p1]) (rest := []) (ci := 2) (q0 := 2) hx hb hml hown hg hP hD hK hS hA hnw hgk (x_noteRing5 l D ks H.size ad kk V92 L Z (V92 20 (Int32.toNatClampNeg y91)) p1 ((VFO gs.1 gv (gs.2.1 2).length (24 - (dq + 1)) dq gP gk gM (edJ gs.1 gv (gs.2.1 2).length gk (Int32.toNatClampNeg y14) ++ edC gs.1 gv (gs.2.1 2).length gk (Int32.toNatClampNeg y14) (Int32.toNatClampNeg y91))).2) ((upn gP dq gk)) ((VFO gs.1 gv (gs.2.1 2).length (24 - (dq + 1)) dq gP gk gM (edJ gs.1 gv (gs.2.1 2).length gk (Int32.toNatClampNeg y14) ++ edC gs.1 gv (gs.2.1 2).length gk (Int32.toNatClampNeg y14) (Int32.toNatClampNeg y91))).1 (Int32.toNatClampNeg y91) - 2) (dq) ((Int32.toNatClampNeg y91)) hMV92 (by first | omega | ((try (have i_rfq := Imp.go rfq (by omega))); (try (have i_hsv := Imp.go hsv (by omega))); (try (have i_gkl := Imp.go gkl (by omega))); (try (have i_wh := Imp.go wh (by omega))); first | omega | ((try (have i_coc := Imp.go coc (by omega))); (try (have i_coc := Imp.go coc (by omega))); (try (have i_wh := Imp.go wh (by omega))); (try (have i_gkl := Imp.go gkl (by omega))); (try (have i_hsv := Imp.go hsv (by omega))); (try (have i_rfq := Imp.go rfq (by omega))); omega))) (by first | exact om_582a5a29f9ff rg_p1.1 f7 | first | omega | ((try (have i_rfq := Imp.go rfq (by omega))); (try (have i_hsv := Imp.go hsv (by omega))); (try (have i_gkl := Imp.go gkl (by omega))); (try (have i_wh := Imp.go wh (by omega))); first | omega | ((try (have i_coc := Imp.go coc (by omega))); (try (have i_coc := Imp.go coc (by omega))); (try (have i_wh := Imp.go wh (by omega))); (try (have i_gkl := Imp.go gkl (by omega))); (try (have i_hsv := Imp.go hsv (by omega))); (try (have i_rfq := Imp.go rfq (by omega))); omega))) (show (V92 2 7).toInt ≤ 999999 from by first | exact om_dfc5663c516c y3 ln ln2 r22.2 f30 xlp93_0 f101 | first | omega | ((try (have i_rfq := Imp.go rfq (by omega))); (try (have i_hsv := Imp.go hsv (by omega))); (try (have i_gkl := Imp.go gkl (by omega))); (try (have i_wh := Imp.go wh (by omega))); first | omega | ((try (have i_coc := Imp.go coc (by omega))); (try (have i_coc := Imp.go coc (by omega))); (try (have i_wh := Imp.go wh (by omega))); (try (have i_gkl := Imp.go gkl (by omega))); (try (have i_hsv := Imp.go hsv (by omega))); (try (have i_rfq := Imp.go rfq (by omega))); omega))) (show ((V92 20 (Int32.toNatClampNeg y91))).toInt = ((((VFO gs.1 gv (gs.2.1 2).length (24 - (dq + 1)) dq gP gk gM (edJ gs.1 gv (gs.2.1 2).length gk (Int32.toNatClampNeg y14) ++ edC gs.1 gv (gs.2.1 2).length gk (Int32.toNatClampNeg y14) (Int32.toNatClampNeg y91))).1 (Int32.toNatClampNeg y91) - 2) : Nat) : Int) from by first | omega | ((try (have i_rfq := Imp.go rfq (by omega))); (try (have i_hsv := Imp.go hsv (by omega))); (try (have i_gkl := Imp.go gkl (by omega))); (try (have i_wh := Imp.go wh (by omega))); first | omega | ((try (have i_coc := Imp.go coc (by omega))); (try (have i_coc := Imp.go coc (by omega))); (try (have i_wh := Imp.go wh (by omega))); (try (have i_gkl := Imp.go gkl (by omega))); (try (have i_hsv := Imp.go hsv (by omega))); (try (have i_rfq := Imp.go rfq (by omega))); omega))) (show p1.toInt = ((dq : Nat) : Int) from by first | exact om_08e0c9701055 pp | first | omega | ((try (have i_rfq := Imp.go rfq (by omega))); (try (have i_hsv := Imp.go hsv (by omega))); (try (have i_gkl := Imp.go gkl (by omega))); (try (have i_wh := Imp.go wh (by omega))); first | omega | ((try (have i_coc := Imp.go coc (by omega))); (try (have i_coc := Imp.go coc (by omega))); (try (have i_wh := Imp.go wh (by omega))); (try (have i_gkl := Imp.go gkl (by omega))); (try (have i_hsv := Imp.go hsv (by omega))); (try (have i_rfq := Imp.go rfq (by omega))); omega))) (show ((VFO gs.1 gv (gs.2.1 2).length (24 - (dq + 1)) dq gP gk gM (edJ gs.1 gv (gs.2.1 2).length gk (Int32.toNatClampNeg y14) ++ edC gs.1 gv (gs.2.1 2).length gk (Int32.toNatClampNeg y14) (Int32.toNatClampNeg y91))).1 (Int32.toNatClampNeg y91) - 2) ≤ dq from by first | omega | ((try (have i_rfq := Imp.go rfq (by omega))); (try (have i_hsv := Imp.go hsv (by omega))); (try (have i_gkl := Imp.go gkl (by omega))); (try (have i_wh := Imp.go wh (by omega))); first | omega | ((try (have i_coc := Imp.go coc (by omega))); (try (have i_coc := Imp.go coc (by omega))); (try (have i_wh := Imp.go wh (by omega))); (try (have i_gkl := Imp.go gkl (by omega))); (try (have i_hsv := Imp.go hsv (by omega))); (try (have i_rfq := Imp.go rfq (by omega))); omega))) rf9.1 rf9.2.2.1 pw9.2) w1109 w1111 w40 w163 w1112 rfl xgChecker hdV_yX2_noteRing ⟨(by show 1 + 1 ≤ 10 * dd + 8; (first | exact om_1d2910de4fd0 y2 f7 | omega)), (by show 8 + (4 + 11) + (23) ≤ 300 * dd + 260; (first | exact om_94db7e494f5c y2 f7 | omega))⟩ rfl hl.1 rfl (Nat.le_of_ble_eq_true rfl) dX2_follow_144 ⟨Nat.le_of_ble_eq_true rfl, Nat.le_of_ble_eq_true rfl⟩) hP hD hK hS hA (fun u115 H locs w116 hP hD hK hS => ?_)
                        obtain ⟨V119, L120⟩ := u115
                        obtain ⟨hMV119, ajV119, axL120, t117, t118⟩ := w116
                        have axL120 : L = L120 := Eq.symm axL120
                        subst axL120
                        have hP : va_P D vwCl (xw ad kk V119 L Z) H := hP
                        have hD : va_D A (xw ad kk V119 L Z) := hD
                        have hMV119 : rgd bX V119 := hMV119
                        have ajV119 : agr [(2, 7)] [15, 16, 17, 18] V92 V119 := ajV119
                        have agV119 : agr [(2, 7)] [15, 16, 17, 18, 19, 20] V V119 := agV92.tr ajV119 (by decide) (by decide)
                        have t117 : (V119 2 7).toInt = (V92 2 7).toInt + 1 := t117
                        have t118 : FLc V119 (adF ((VFO gs.1 gv (gs.2.1 2).length (24 - (dq + 1)) dq gP gk gM (edJ gs.1 gv (gs.2.1 2).length gk (Int32.toNatClampNeg y14) ++ edC gs.1 gv (gs.2.1 2).length gk (Int32.toNatClampNeg y14) (Int32.toNatClampNeg y91))).2) 3 (Int32.toNatClampNeg y91) (dq + 1 - ((VFO gs.1 gv (gs.2.1 2).length (24 - (dq + 1)) dq gP gk gM (edJ gs.1 gv (gs.2.1 2).length gk (Int32.toNatClampNeg y14) ++ edC gs.1 gv (gs.2.1 2).length gk (Int32.toNatClampNeg y14) (Int32.toNatClampNeg y91))).1 (Int32.toNatClampNeg y91) - 2)) (fun k9 => (upn gP dq gk) (((VFO gs.1 gv (gs.2.1 2).length (24 - (dq + 1)) dq gP gk gM (edJ gs.1 gv (gs.2.1 2).length gk (Int32.toNatClampNeg y14) ++ edC gs.1 gv (gs.2.1 2).length gk (Int32.toNatClampNeg y14) (Int32.toNatClampNeg y91))).1 (Int32.toNatClampNeg y91) - 2) + k9))) := t118
                        have r121 : 0 ≤ ((V119 2 7)).toInt ∧ ((V119 2 7)).toInt ≤ 1000000 := hMV119 2 7
                        obtain ⟨z122, ez122⟩ : ∃ y : Int32, y = y91 + 1 := ⟨_, rfl⟩
                        have hz122 : z122.toInt = y91.toInt + 1 := i_add ez122 rfl (by decide) (by (first | exact om_1496522b7eb5 ln ln2 klp93_0.1 f101 | omega))
                        refine lv_iinc (v := z122) (lv' := [(5, .int z122), (4, .int 0), (3, .int y14), (0, .ref (ad 2)), (1, .int p0), (2, .int p1)]) hx hb dX2_follow_147 hl (k := 0) rfl (by rw [ez122]; rfl) (by decide) rfl (fun ls hl => ?_)
                        refine lv_goto (tgt := 72) hx hb dX2_follow_150 (by decide) ?_
                        have r123 : Int32.toInt 0 = 0 := by decide
                        have cq124 : cx V119 24 = cx V92 24 := cx_ag (show agr [(2, 7)] [15, 16, 17, 18] V92 V119 from (agr.tr agr.rf ajV119 (by decide) (by decide))) (fun _ => rfl) 24
                        exact ihlp93 z122 V119 H locs ls (by first | exact om_71a9c3e930b1 ln ln2 klp93_0.1 f101 hz122 | first | omega | ((try (have i_rfq := Imp.go rfq (by omega))); (try (have i_hsv := Imp.go hsv (by omega))); (try (have i_gkl := Imp.go gkl (by omega))); (try (have i_wh := Imp.go wh (by omega))); first | omega | ((try (have i_coc := Imp.go coc (by omega))); (try (have i_coc := Imp.go coc (by omega))); (try (have i_wh := Imp.go wh (by omega))); (try (have i_gkl := Imp.go gkl (by omega))); (try (have i_hsv := Imp.go hsv (by omega))); (try (have i_rfq := Imp.go rfq (by omega))); omega))) (show (V119 2 7).toInt + 192 * (cx V119 24 : Int) + 192 ≤ (V 2 7).toInt + 192 * (cx V 24 : Int) + 24 * y14.toInt + z122.toInt from by first | exact om_d6037a19fb3f xlp93_0 t117 hz122 cq124 | first | omega | ((try (have i_rfq := Imp.go rfq (by omega))); (try (have i_hsv := Imp.go hsv (by omega))); (try (have i_gkl := Imp.go gkl (by omega))); (try (have i_wh := Imp.go wh (by omega))); first | omega | ((try (have i_coc := Imp.go coc (by omega))); (try (have i_coc := Imp.go coc (by omega))); (try (have i_wh := Imp.go wh (by omega))); (try (have i_gkl := Imp.go gkl (by omega))); (try (have i_hsv := Imp.go hsv (by omega))); (try (have i_rfq := Imp.go rfq (by omega))); omega))) (show (V 2 7).toInt ≤ (V119 2 7).toInt from by first | exact om_f75a30b4c815 xlp93_1 t117 | first | omega | ((try (have i_rfq := Imp.go rfq (by omega))); (try (have i_hsv := Imp.go hsv (by omega))); (try (have i_gkl := Imp.go gkl (by omega))); (try (have i_wh := Imp.go wh (by omega))); first | omega | ((try (have i_coc := Imp.go coc (by omega))); (try (have i_coc := Imp.go coc (by omega))); (try (have i_wh := Imp.go wh (by omega))); (try (have i_gkl := Imp.go gkl (by omega))); (try (have i_hsv := Imp.go hsv (by omega))); (try (have i_rfq := Imp.go rfq (by omega))); omega))) (fun q hq => by rw [ajV119 20 q rfl]; exact xlp93_2 q hq) (by rw [ajV119 20 _ rfl]; exact xlp93_3) (by rw [show z122.toInt.toNat = (Int32.toNatClampNeg y91) + 1 from by omega, show y14.toInt.toNat = (Int32.toNatClampNeg y14) from rfl, ed9, ← List.append_assoc, VFO_a, stE_2 m29]; exact RFc.rg rf9 (by have h9 := t118; exact h9) (by rw [(funext (fun q => ajV119 20 q rfl) : V119 20 = V92 20)] : V119 20 = V92 20) (by rw [(funext (fun q => ajV119 19 q rfl) : V119 19 = V92 19)] : V119 19 = V92 19)) (show z122.toInt ≤ (((gs.2.1 2).length : Nat) : Int) from by first | exact om_bcda7a344117 ln f101 hz122 | first | omega | ((try (have i_rfq := Imp.go rfq (by omega))); (try (have i_hsv := Imp.go hsv (by omega))); (try (have i_gkl := Imp.go gkl (by omega))); (try (have i_wh := Imp.go wh (by omega))); first | omega | ((try (have i_coc := Imp.go coc (by omega))); (try (have i_coc := Imp.go coc (by omega))); (try (have i_wh := Imp.go wh (by omega))); (try (have i_gkl := Imp.go gkl (by omega))); (try (have i_hsv := Imp.go hsv (by omega))); (try (have i_rfq := Imp.go rfq (by omega))); omega))) (by first | exact om_9592d9319ffa hn hz122 | first | omega | ((try (have i_rfq := Imp.go rfq (by omega))); (try (have i_hsv := Imp.go hsv (by omega))); (try (have i_gkl := Imp.go gkl (by omega))); (try (have i_wh := Imp.go wh (by omega))); first | omega | ((try (have i_coc := Imp.go coc (by omega))); (try (have i_coc := Imp.go coc (by omega))); (try (have i_wh := Imp.go wh (by omega))); (try (have i_gkl := Imp.go gkl (by omega))); (try (have i_hsv := Imp.go hsv (by omega))); (try (have i_rfq := Imp.go rfq (by omega))); omega))) (agr.tr (agr.tr agr.rf ajV92 (by decide) (by decide)) ajV119 (by decide) (by decide)) hMV119 hP hD hS (lv_sub hl [0, 1, 2, 3, 4, 5] rfl)
                    · skip
                      have f125 : ((V92 20 (Int32.toNatClampNeg y91))).toInt = (-1) := b_eq rfl (by decide) c107
                      refine lv_aload_n hx hb dX2_follow_111 rfl (lv_at hl 3 rfl) ?_
                      obtain ⟨d9, rfl⟩ : ∃ d9, dd = d9 + 1 := ⟨dd - 1, by omega⟩
                      refine lv_iload hx hb dX2_follow_112 (lv_at hl 0 rfl) ?_
                      refine lv_iload_n hx hb dX2_follow_114 rfl (lv_at hl 5 rfl) ?_
                      refine lv_iconst (v := 1) hx hb dX2_follow_115 (by decide) ?_
                      refine lv_iadd hx hb dX2_follow_116 ?_
                      refine lv_topi (fun z126 ez126 => ?_)
                      have hz126 : z126.toInt = p1.toInt + 1 := i_add ez126 rfl (by decide) (by (first | exact om_bc9106cf44c9 rg_p1.1 f7 | omega))
                      have pq127 : (V92 43 (5 * b + 2)).toInt = ((V 43 (5 * b + 2))).toInt := congrArg Int32.toInt ((ajV92 43 (5 * b + 2) rfl).trans ((ajV15 43 (5 * b + 2) rfl).trans ((up2_o hV10 (by decide)).trans (up2_o hV8 (by decide)))))
                      refine gA_void (gA_runV (As := [.int y91, .int z126]) (rest := []) (ci := 2) (q0 := 2) hx hb hml hown hg hP hD hK hS hA hnw hgk ((hk_x_follow5 d9 rfl) H.size ad kk V92 L Z y91 z126 (b) (gs) ((Int32.toNatClampNeg y91)) (gv) ((VFO gs.1 gv (gs.2.1 2).length (24 - (dq + 1)) dq gP gk gM (edJ gs.1 gv (gs.2.1 2).length gk (Int32.toNatClampNeg y14) ++ edC gs.1 gv (gs.2.1 2).length gk (Int32.toNatClampNeg y14) (Int32.toNatClampNeg y91)))) ((upn gP dq gk)) (dq + 1) hMV92 (by first | omega | ((try (have i_rfq := Imp.go rfq (by omega))); (try (have i_hsv := Imp.go hsv (by omega))); (try (have i_gkl := Imp.go gkl (by omega))); (try (have i_wh := Imp.go wh (by omega))); first | omega | ((try (have i_coc := Imp.go coc (by omega))); (try (have i_coc := Imp.go coc (by omega))); (try (have i_wh := Imp.go wh (by omega))); (try (have i_gkl := Imp.go gkl (by omega))); (try (have i_hsv := Imp.go hsv (by omega))); (try (have i_rfq := Imp.go rfq (by omega))); omega))) (by first | omega | ((try (have i_rfq := Imp.go rfq (by omega))); (try (have i_hsv := Imp.go hsv (by omega))); (try (have i_gkl := Imp.go gkl (by omega))); (try (have i_wh := Imp.go wh (by omega))); first | omega | ((try (have i_coc := Imp.go coc (by omega))); (try (have i_coc := Imp.go coc (by omega))); (try (have i_wh := Imp.go wh (by omega))); (try (have i_gkl := Imp.go gkl (by omega))); (try (have i_hsv := Imp.go hsv (by omega))); (try (have i_rfq := Imp.go rfq (by omega))); omega))) (show b < 2 from by first | exact om_f940a4667dd6 hb2 | first | omega | ((try (have i_rfq := Imp.go rfq (by omega))); (try (have i_hsv := Imp.go hsv (by omega))); (try (have i_gkl := Imp.go gkl (by omega))); (try (have i_wh := Imp.go wh (by omega))); first | omega | ((try (have i_coc := Imp.go coc (by omega))); (try (have i_coc := Imp.go coc (by omega))); (try (have i_wh := Imp.go wh (by omega))); (try (have i_gkl := Imp.go gkl (by omega))); (try (have i_hsv := Imp.go hsv (by omega))); (try (have i_rfq := Imp.go rfq (by omega))); omega))) (show (V92 2 6).toInt = (b : Int) from by first | exact om_adf531c77a0d cbk pq95 | first | omega | ((try (have i_rfq := Imp.go rfq (by omega))); (try (have i_hsv := Imp.go hsv (by omega))); (try (have i_gkl := Imp.go gkl (by omega))); (try (have i_wh := Imp.go wh (by omega))); first | omega | ((try (have i_coc := Imp.go coc (by omega))); (try (have i_coc := Imp.go coc (by omega))); (try (have i_wh := Imp.go wh (by omega))); (try (have i_gkl := Imp.go gkl (by omega))); (try (have i_hsv := Imp.go hsv (by omega))); (try (have i_rfq := Imp.go rfq (by omega))); omega))) (show (V92 20 (Int32.toNatClampNeg y91)).toInt = -1 from by first | exact om_a870fdf34004 f125 | first | omega | ((try (have i_rfq := Imp.go rfq (by omega))); (try (have i_hsv := Imp.go hsv (by omega))); (try (have i_gkl := Imp.go gkl (by omega))); (try (have i_wh := Imp.go wh (by omega))); first | omega | ((try (have i_coc := Imp.go coc (by omega))); (try (have i_coc := Imp.go coc (by omega))); (try (have i_wh := Imp.go wh (by omega))); (try (have i_gkl := Imp.go gkl (by omega))); (try (have i_hsv := Imp.go hsv (by omega))); (try (have i_rfq := Imp.go rfq (by omega))); omega))) (show 24 - z126.toInt ≤ ((d9 : Nat) : Int) from by first | exact om_812883e71f9c y2 hz126 | first | omega | ((try (have i_rfq := Imp.go rfq (by omega))); (try (have i_hsv := Imp.go hsv (by omega))); (try (have i_gkl := Imp.go gkl (by omega))); (try (have i_wh := Imp.go wh (by omega))); first | omega | ((try (have i_coc := Imp.go coc (by omega))); (try (have i_coc := Imp.go coc (by omega))); (try (have i_wh := Imp.go wh (by omega))); (try (have i_gkl := Imp.go gkl (by omega))); (try (have i_hsv := Imp.go hsv (by omega))); (try (have i_rfq := Imp.go rfq (by omega))); omega))) (show (V92 2 7).toInt + 192 * (cx V92 24 : Int) ≤ 999000 from by first | exact om_e42a2877bcbe y3 ln ln2 r22.2 f30 xlp93_0 f101 | first | omega | ((try (have i_rfq := Imp.go rfq (by omega))); (try (have i_hsv := Imp.go hsv (by omega))); (try (have i_gkl := Imp.go gkl (by omega))); (try (have i_wh := Imp.go wh (by omega))); first | omega | ((try (have i_coc := Imp.go coc (by omega))); (try (have i_coc := Imp.go coc (by omega))); (try (have i_wh := Imp.go wh (by omega))); (try (have i_gkl := Imp.go gkl (by omega))); (try (have i_hsv := Imp.go hsv (by omega))); (try (have i_rfq := Imp.go rfq (by omega))); omega))) (show y91.toInt = (((Int32.toNatClampNeg y91) : Nat) : Int) from by first | exact om_dadc9969542e kd9 | first | omega | ((try (have i_rfq := Imp.go rfq (by omega))); (try (have i_hsv := Imp.go hsv (by omega))); (try (have i_gkl := Imp.go gkl (by omega))); (try (have i_wh := Imp.go wh (by omega))); first | omega | ((try (have i_coc := Imp.go coc (by omega))); (try (have i_coc := Imp.go coc (by omega))); (try (have i_wh := Imp.go wh (by omega))); (try (have i_gkl := Imp.go gkl (by omega))); (try (have i_hsv := Imp.go hsv (by omega))); (try (have i_rfq := Imp.go rfq (by omega))); omega))) (show z126.toInt = (((dq + 1) : Nat) : Int) from by first | exact om_6ff35234c20b pp hz126 | first | omega | ((try (have i_rfq := Imp.go rfq (by omega))); (try (have i_hsv := Imp.go hsv (by omega))); (try (have i_gkl := Imp.go gkl (by omega))); (try (have i_wh := Imp.go wh (by omega))); first | omega | ((try (have i_coc := Imp.go coc (by omega))); (try (have i_coc := Imp.go coc (by omega))); (try (have i_wh := Imp.go wh (by omega))); (try (have i_gkl := Imp.go gkl (by omega))); (try (have i_hsv := Imp.go hsv (by omega))); (try (have i_rfq := Imp.go rfq (by omega))); omega))) (COc.ag coc (by rw [(funext (fun q => ajV92 49 q rfl) : V92 49 = V15 49), (funext (fun q => ajV15 49 q rfl) : V15 49 = V10 49), (up2_fo hV10 (by decide) : V10 49 = V8 49), (up2_fo hV8 (by decide) : V8 49 = V 49)] : V92 49 = V 49) (by rw [(funext (fun q => ajV92 50 q rfl) : V92 50 = V15 50), (funext (fun q => ajV15 50 q rfl) : V15 50 = V10 50), (up2_fo hV10 (by decide) : V10 50 = V8 50), (up2_fo hV8 (by decide) : V8 50 = V 50)] : V92 50 = V 50) (by rw [(funext (fun q => ajV92 51 q rfl) : V92 51 = V15 51), (funext (fun q => ajV15 51 q rfl) : V15 51 = V10 51), (up2_fo hV10 (by decide) : V10 51 = V8 51), (up2_fo hV8 (by decide) : V8 51 = V 51)] : V92 51 = V 51) (by rw [(funext (fun q => ajV92 52 q rfl) : V92 52 = V15 52), (funext (fun q => ajV15 52 q rfl) : V15 52 = V10 52), (up2_fo hV10 (by decide) : V10 52 = V8 52), (up2_fo hV8 (by decide) : V8 52 = V 52)] : V92 52 = V 52) (by rw [(funext (fun q => ajV92 53 q rfl) : V92 53 = V15 53), (funext (fun q => ajV15 53 q rfl) : V15 53 = V10 53), (up2_fo hV10 (by decide) : V10 53 = V8 53), (up2_fo hV8 (by decide) : V8 53 = V 53)] : V92 53 = V 53) (by rw [(funext (fun q => ajV92 54 q rfl) : V92 54 = V15 54), (funext (fun q => ajV15 54 q rfl) : V15 54 = V10 54), (up2_fo hV10 (by decide) : V10 54 = V8 54), (up2_fo hV8 (by decide) : V8 54 = V 54)] : V92 54 = V 54) (by rw [(funext (fun q => ajV92 55 q rfl) : V92 55 = V15 55), (funext (fun q => ajV15 55 q rfl) : V15 55 = V10 55), (up2_fo hV10 (by decide) : V10 55 = V8 55), (up2_fo hV8 (by decide) : V8 55 = V 55)] : V92 55 = V 55) (by rw [(funext (fun q => ajV92 58 q rfl) : V92 58 = V15 58), (funext (fun q => ajV15 58 q rfl) : V15 58 = V10 58), (up2_fo hV10 (by decide) : V10 58 = V8 58), (up2_fo hV8 (by decide) : V8 58 = V 58)] : V92 58 = V 58) (by rw [(funext (fun q => ajV92 59 q rfl) : V92 59 = V15 59), (funext (fun q => ajV15 59 q rfl) : V15 59 = V10 59), (up2_fo hV10 (by decide) : V10 59 = V8 59), (up2_fo hV8 (by decide) : V8 59 = V 59)] : V92 59 = V 59) (by rw [(funext (fun q => ajV92 60 q rfl) : V92 60 = V15 60), (funext (fun q => ajV15 60 q rfl) : V15 60 = V10 60), (up2_fo hV10 (by decide) : V10 60 = V8 60), (up2_fo hV8 (by decide) : V8 60 = V 60)] : V92 60 = V 60)) wh dl9 (show (V92 43 (5 * b + 2)).toInt = (((gs.2.1 2).length : Nat) : Int) from by first | exact om_adf531c77a0d ln pq127 | first | omega | ((try (have i_rfq := Imp.go rfq (by omega))); (try (have i_hsv := Imp.go hsv (by omega))); (try (have i_gkl := Imp.go gkl (by omega))); (try (have i_wh := Imp.go wh (by omega))); first | omega | ((try (have i_coc := Imp.go coc (by omega))); (try (have i_coc := Imp.go coc (by omega))); (try (have i_wh := Imp.go wh (by omega))); (try (have i_gkl := Imp.go gkl (by omega))); (try (have i_hsv := Imp.go hsv (by omega))); (try (have i_rfq := Imp.go rfq (by omega))); omega))) (show (gs.2.1 2).length ≤ 24 from by first | exact om_6e1dcbb49536 ln2 | first | omega | ((try (have i_rfq := Imp.go rfq (by omega))); (try (have i_hsv := Imp.go hsv (by omega))); (try (have i_gkl := Imp.go gkl (by omega))); (try (have i_wh := Imp.go wh (by omega))); first | omega | ((try (have i_coc := Imp.go coc (by omega))); (try (have i_coc := Imp.go coc (by omega))); (try (have i_wh := Imp.go wh (by omega))); (try (have i_gkl := Imp.go gkl (by omega))); (try (have i_hsv := Imp.go hsv (by omega))); (try (have i_rfq := Imp.go rfq (by omega))); omega))) (svc_fo hsv (by rw [(funext (fun q => ajV92 46 q rfl) : V92 46 = V15 46), (funext (fun q => ajV15 46 q rfl) : V15 46 = V10 46), (up2_fo hV10 (by decide) : V10 46 = V8 46), (up2_fo hV8 (by decide) : V8 46 = V 46)] : V92 46 = V 46)) rf9) w1101 w1103 w38 w163 w1104 rfl xgChecker hdV_yX2_follow ⟨(by show 10 * d9 + 8 + 1 ≤ 10 * (d9 + 1) + 8; (first | exact om_be46aa8b5072 | omega)), (by show 8 + (6 + 11) + (300 * d9 + 260) ≤ 300 * (d9 + 1) + 260; (first | exact om_e96c281fab6d | omega))⟩ rfl hl.1 rfl (Nat.le_of_ble_eq_true rfl) dX2_follow_117 ⟨Nat.le_of_ble_eq_true rfl, Nat.le_of_ble_eq_true rfl⟩) hP hD hK hS hA (fun u129 H locs w130 hP hD hK hS => ?_)
                      obtain ⟨V135, L136⟩ := u129
                      obtain ⟨hMV135, ajV135, axL136, t131, t132, t133, t134⟩ := w130
                      have axL136 : L = L136 := Eq.symm axL136
                      subst axL136
                      have hP : va_P D vwCl (xw ad kk V135 L Z) H := hP
                      have hD : va_D A (xw ad kk V135 L Z) := hD
                      have hMV135 : rgd bX V135 := hMV135
                      have ajV135 : agr [(2, 7)] [15, 16, 17, 18, 19, 20] V92 V135 := ajV135
                      have agV135 : agr [(2, 7)] [15, 16, 17, 18, 19, 20] V V135 := agV92.tr ajV135 (by decide) (by decide)
                      have t131 : (V135 2 7).toInt + 192 * (cx V135 24 : Int) ≤ (V92 2 7).toInt + 192 * (cx V92 24 : Int) := t131
                      have t132 : (V92 2 7).toInt ≤ (V135 2 7).toInt := t132
                      have t133 : (∀ q : Nat, (V92 20 q).toInt ≠ -1 → (V135 20 q).toInt ≠ -1) := t133
                      have t134 : RFc V135 (gs.2.1 2).length (VIS gs.1 gv (gs.2.1 2).length (24 - (dq + 1)) (dq + 1) (upn gP dq gk) (Int32.toNatClampNeg y91) (VFO gs.1 gv (gs.2.1 2).length (24 - (dq + 1)) dq gP gk gM (edJ gs.1 gv (gs.2.1 2).length gk (Int32.toNatClampNeg y14) ++ edC gs.1 gv (gs.2.1 2).length gk (Int32.toNatClampNeg y14) (Int32.toNatClampNeg y91)))) (upn gP dq gk) (dq + 1) := t134
                      have r137 : 0 ≤ ((V135 2 7)).toInt ∧ ((V135 2 7)).toInt ≤ 1000000 := hMV135 2 7
                      refine lv_goto (tgt := 147) hx hb dX2_follow_120 (by decide) ?_
                      obtain ⟨z138, ez138⟩ : ∃ y : Int32, y = y91 + 1 := ⟨_, rfl⟩
                      have hz138 : z138.toInt = y91.toInt + 1 := i_add ez138 rfl (by decide) (by (first | exact om_046224c29f59 ln ln2 f101 kd9 | omega))
                      refine lv_iinc (v := z138) (lv' := [(5, .int z138), (4, .int 0), (3, .int y14), (0, .ref (ad 2)), (1, .int p0), (2, .int p1)]) hx hb dX2_follow_147 hl (k := 0) rfl (by rw [ez138]; rfl) (by decide) rfl (fun ls hl => ?_)
                      refine lv_goto (tgt := 72) hx hb dX2_follow_150 (by decide) ?_
                      have r139 : Int32.toInt 0 = 0 := by decide
                      exact ihlp93 z138 V135 H locs ls (by first | exact om_c6235c800f78 ln ln2 f101 kd9 hz138 | first | omega | ((try (have i_rfq := Imp.go rfq (by omega))); (try (have i_hsv := Imp.go hsv (by omega))); (try (have i_gkl := Imp.go gkl (by omega))); (try (have i_wh := Imp.go wh (by omega))); first | omega | ((try (have i_coc := Imp.go coc (by omega))); (try (have i_coc := Imp.go coc (by omega))); (try (have i_wh := Imp.go wh (by omega))); (try (have i_gkl := Imp.go gkl (by omega))); (try (have i_hsv := Imp.go hsv (by omega))); (try (have i_rfq := Imp.go rfq (by omega))); omega))) (show (V135 2 7).toInt + 192 * (cx V135 24 : Int) + 192 ≤ (V 2 7).toInt + 192 * (cx V 24 : Int) + 24 * y14.toInt + z138.toInt from by first | exact om_d0f4f3587dbd xlp93_0 t131 hz138 | first | omega | ((try (have i_rfq := Imp.go rfq (by omega))); (try (have i_hsv := Imp.go hsv (by omega))); (try (have i_gkl := Imp.go gkl (by omega))); (try (have i_wh := Imp.go wh (by omega))); first | omega | ((try (have i_coc := Imp.go coc (by omega))); (try (have i_coc := Imp.go coc (by omega))); (try (have i_wh := Imp.go wh (by omega))); (try (have i_gkl := Imp.go gkl (by omega))); (try (have i_hsv := Imp.go hsv (by omega))); (try (have i_rfq := Imp.go rfq (by omega))); omega))) (show (V 2 7).toInt ≤ (V135 2 7).toInt from by first | exact om_56aaaabe0a9d xlp93_1 t132 | first | omega | ((try (have i_rfq := Imp.go rfq (by omega))); (try (have i_hsv := Imp.go hsv (by omega))); (try (have i_gkl := Imp.go gkl (by omega))); (try (have i_wh := Imp.go wh (by omega))); first | omega | ((try (have i_coc := Imp.go coc (by omega))); (try (have i_coc := Imp.go coc (by omega))); (try (have i_wh := Imp.go wh (by omega))); (try (have i_gkl := Imp.go gkl (by omega))); (try (have i_hsv := Imp.go hsv (by omega))); (try (have i_rfq := Imp.go rfq (by omega))); omega))) (fun q hq => t133 q (xlp93_2 q hq)) (t133 _ xlp93_3) (by rw [show z138.toInt.toNat = (Int32.toNatClampNeg y91) + 1 from by omega, show y14.toInt.toNat = (Int32.toNatClampNeg y14) from rfl, ed9, ← List.append_assoc, VFO_a, stE_0 (by omega)]; exact t134) (show z138.toInt ≤ (((gs.2.1 2).length : Nat) : Int) from by first | exact om_bcda7a344117 ln f101 hz138 | first | omega | ((try (have i_rfq := Imp.go rfq (by omega))); (try (have i_hsv := Imp.go hsv (by omega))); (try (have i_gkl := Imp.go gkl (by omega))); (try (have i_wh := Imp.go wh (by omega))); first | omega | ((try (have i_coc := Imp.go coc (by omega))); (try (have i_coc := Imp.go coc (by omega))); (try (have i_wh := Imp.go wh (by omega))); (try (have i_gkl := Imp.go gkl (by omega))); (try (have i_hsv := Imp.go hsv (by omega))); (try (have i_rfq := Imp.go rfq (by omega))); omega))) (by first | exact om_9592d9319ffa hn hz138 | first | omega | ((try (have i_rfq := Imp.go rfq (by omega))); (try (have i_hsv := Imp.go hsv (by omega))); (try (have i_gkl := Imp.go gkl (by omega))); (try (have i_wh := Imp.go wh (by omega))); first | omega | ((try (have i_coc := Imp.go coc (by omega))); (try (have i_coc := Imp.go coc (by omega))); (try (have i_wh := Imp.go wh (by omega))); (try (have i_gkl := Imp.go gkl (by omega))); (try (have i_hsv := Imp.go hsv (by omega))); (try (have i_rfq := Imp.go rfq (by omega))); omega))) (agr.tr (agr.tr agr.rf ajV92 (by decide) (by decide)) ajV135 (by decide) (by decide)) hMV135 hP hD hS (lv_sub hl [0, 1, 2, 3, 4, 5] rfl)
                  · skip
                    have f140 : z103.toInt = 0 := b_eq rfl (by decide) c104
                    refine lv_goto (tgt := 147) hx hb dX2_follow_97 (by decide) ?_
                    obtain ⟨z141, ez141⟩ : ∃ y : Int32, y = y91 + 1 := ⟨_, rfl⟩
                    have hz141 : z141.toInt = y91.toInt + 1 := i_add ez141 rfl (by decide) (by (first | exact om_1496522b7eb5 ln ln2 klp93_0.1 f101 | omega))
                    refine lv_iinc (v := z141) (lv' := [(5, .int z141), (4, .int 0), (3, .int y14), (0, .ref (ad 2)), (1, .int p0), (2, .int p1)]) hx hb dX2_follow_147 hl (k := 0) rfl (by rw [ez141]; rfl) (by decide) rfl (fun ls hl => ?_)
                    refine lv_goto (tgt := 72) hx hb dX2_follow_150 (by decide) ?_
                    have r142 : Int32.toInt 0 = 0 := by decide
                    exact ihlp93 z141 V92 H locs ls (by first | exact om_71a9c3e930b1 ln ln2 klp93_0.1 f101 hz141 | first | omega | ((try (have i_rfq := Imp.go rfq (by omega))); (try (have i_hsv := Imp.go hsv (by omega))); (try (have i_gkl := Imp.go gkl (by omega))); (try (have i_wh := Imp.go wh (by omega))); first | omega | ((try (have i_coc := Imp.go coc (by omega))); (try (have i_coc := Imp.go coc (by omega))); (try (have i_wh := Imp.go wh (by omega))); (try (have i_gkl := Imp.go gkl (by omega))); (try (have i_hsv := Imp.go hsv (by omega))); (try (have i_rfq := Imp.go rfq (by omega))); omega))) (show (V92 2 7).toInt + 192 * (cx V92 24 : Int) + 192 ≤ (V 2 7).toInt + 192 * (cx V 24 : Int) + 24 * y14.toInt + z141.toInt from by first | exact om_c6c0086499f2 xlp93_0 hz141 | first | omega | ((try (have i_rfq := Imp.go rfq (by omega))); (try (have i_hsv := Imp.go hsv (by omega))); (try (have i_gkl := Imp.go gkl (by omega))); (try (have i_wh := Imp.go wh (by omega))); first | omega | ((try (have i_coc := Imp.go coc (by omega))); (try (have i_coc := Imp.go coc (by omega))); (try (have i_wh := Imp.go wh (by omega))); (try (have i_gkl := Imp.go gkl (by omega))); (try (have i_hsv := Imp.go hsv (by omega))); (try (have i_rfq := Imp.go rfq (by omega))); omega))) (show (V 2 7).toInt ≤ (V92 2 7).toInt from by first | exact om_f4906d00fa52 xlp93_1 | first | omega | ((try (have i_rfq := Imp.go rfq (by omega))); (try (have i_hsv := Imp.go hsv (by omega))); (try (have i_gkl := Imp.go gkl (by omega))); (try (have i_wh := Imp.go wh (by omega))); first | omega | ((try (have i_coc := Imp.go coc (by omega))); (try (have i_coc := Imp.go coc (by omega))); (try (have i_wh := Imp.go wh (by omega))); (try (have i_gkl := Imp.go gkl (by omega))); (try (have i_hsv := Imp.go hsv (by omega))); (try (have i_rfq := Imp.go rfq (by omega))); omega))) xlp93_2 xlp93_3 (by rw [show z141.toInt.toNat = (Int32.toNatClampNeg y91) + 1 from by omega, show y14.toInt.toNat = (Int32.toNatClampNeg y14) from rfl, EFD.n ef90 dl9 (lb9.mp (by omega))]; exact xlp93_4) (show z141.toInt ≤ (((gs.2.1 2).length : Nat) : Int) from by first | exact om_bcda7a344117 ln f101 hz141 | first | omega | ((try (have i_rfq := Imp.go rfq (by omega))); (try (have i_hsv := Imp.go hsv (by omega))); (try (have i_gkl := Imp.go gkl (by omega))); (try (have i_wh := Imp.go wh (by omega))); first | omega | ((try (have i_coc := Imp.go coc (by omega))); (try (have i_coc := Imp.go coc (by omega))); (try (have i_wh := Imp.go wh (by omega))); (try (have i_gkl := Imp.go gkl (by omega))); (try (have i_hsv := Imp.go hsv (by omega))); (try (have i_rfq := Imp.go rfq (by omega))); omega))) (by first | exact om_9592d9319ffa hn hz141 | first | omega | ((try (have i_rfq := Imp.go rfq (by omega))); (try (have i_hsv := Imp.go hsv (by omega))); (try (have i_gkl := Imp.go gkl (by omega))); (try (have i_wh := Imp.go wh (by omega))); first | omega | ((try (have i_coc := Imp.go coc (by omega))); (try (have i_coc := Imp.go coc (by omega))); (try (have i_wh := Imp.go wh (by omega))); (try (have i_gkl := Imp.go gkl (by omega))); (try (have i_hsv := Imp.go hsv (by omega))); (try (have i_rfq := Imp.go rfq (by omega))); omega))) (agr.tr agr.rf ajV92 (by decide) (by decide)) hMV92 hP hD hS (lv_sub hl [0, 1, 2, 3, 4, 5] rfl)
            have r143 : Int32.toInt 0 = 0 := by decide
            exact lp93 ((24 - (Int32.toInt 0) + 1 : Int).toNat) 0 V15 H locs ls (by decide) (show (V15 2 7).toInt + 192 * (cx V15 24 : Int) + 192 ≤ (V 2 7).toInt + 192 * (cx V 24 : Int) + 24 * y14.toInt + (Int32.toInt 0) from by first | exact om_b26a2f547375 xlp16_0 r143 | first | omega | ((try (have i_rfq := Imp.go rfq (by omega))); (try (have i_hsv := Imp.go hsv (by omega))); (try (have i_gkl := Imp.go gkl (by omega))); (try (have i_wh := Imp.go wh (by omega))); first | omega | ((try (have i_coc := Imp.go coc (by omega))); (try (have i_coc := Imp.go coc (by omega))); (try (have i_wh := Imp.go wh (by omega))); (try (have i_gkl := Imp.go gkl (by omega))); (try (have i_hsv := Imp.go hsv (by omega))); (try (have i_rfq := Imp.go rfq (by omega))); omega))) (show (V 2 7).toInt ≤ (V15 2 7).toInt from by first | exact om_f4906d00fa52 xlp16_1 | first | omega | ((try (have i_rfq := Imp.go rfq (by omega))); (try (have i_hsv := Imp.go hsv (by omega))); (try (have i_gkl := Imp.go gkl (by omega))); (try (have i_wh := Imp.go wh (by omega))); first | omega | ((try (have i_coc := Imp.go coc (by omega))); (try (have i_coc := Imp.go coc (by omega))); (try (have i_wh := Imp.go wh (by omega))); (try (have i_gkl := Imp.go gkl (by omega))); (try (have i_hsv := Imp.go hsv (by omega))); (try (have i_rfq := Imp.go rfq (by omega))); omega))) xlp16_2 xlp16_3 (by rw [show (Int32.toInt 0).toNat = 0 from by decide, edC_0, List.append_nil]; exact xlp16_4) (show (Int32.toInt 0) ≤ (((gs.2.1 2).length : Nat) : Int) from by first | exact om_3f7d4d3a7b74 gkl r143 | first | omega | ((try (have i_rfq := Imp.go rfq (by omega))); (try (have i_hsv := Imp.go hsv (by omega))); (try (have i_gkl := Imp.go gkl (by omega))); (try (have i_wh := Imp.go wh (by omega))); first | omega | ((try (have i_coc := Imp.go coc (by omega))); (try (have i_coc := Imp.go coc (by omega))); (try (have i_wh := Imp.go wh (by omega))); (try (have i_gkl := Imp.go gkl (by omega))); (try (have i_hsv := Imp.go hsv (by omega))); (try (have i_rfq := Imp.go rfq (by omega))); omega))) (by first | exact om_817980d3aa47 | first | omega | ((try (have i_rfq := Imp.go rfq (by omega))); (try (have i_hsv := Imp.go hsv (by omega))); (try (have i_gkl := Imp.go gkl (by omega))); (try (have i_wh := Imp.go wh (by omega))); first | omega | ((try (have i_coc := Imp.go coc (by omega))); (try (have i_coc := Imp.go coc (by omega))); (try (have i_wh := Imp.go wh (by omega))); (try (have i_gkl := Imp.go gkl (by omega))); (try (have i_hsv := Imp.go hsv (by omega))); (try (have i_rfq := Imp.go rfq (by omega))); omega))) agr.rf hMV15 hP hD hS (lv_sub hl [0, 1, 2, 3, 4, 5] rfl)
    have r144 : Int32.toInt 0 = 0 := by decide
    have pq145 : (V10 2 7).toInt = ((V 2 7)).toInt := congrArg Int32.toInt ((up2_o hV10 (by decide)).trans (up2_o hV8 (by decide)))
    exact lp16 ((8 - (Int32.toInt 0) + 1 : Int).toNat) 0 V10 H locs ls (by decide) (show (V10 2 7).toInt + 192 * (cx V10 24 : Int) + 192 ≤ (V 2 7).toInt + 192 * (cx V 24 : Int) + 24 * (Int32.toInt 0) from by first | omega | ((try (have i_rfq := Imp.go rfq (by omega))); (try (have i_hsv := Imp.go hsv (by omega))); (try (have i_gkl := Imp.go gkl (by omega))); (try (have i_wh := Imp.go wh (by omega))); first | omega | ((try (have i_coc := Imp.go coc (by omega))); (try (have i_coc := Imp.go coc (by omega))); (try (have i_wh := Imp.go wh (by omega))); (try (have i_gkl := Imp.go gkl (by omega))); (try (have i_hsv := Imp.go hsv (by omega))); (try (have i_rfq := Imp.go rfq (by omega))); omega))) (show (V 2 7).toInt ≤ (V10 2 7).toInt from by first | exact om_abdc88b0c8fc pq145 | first | omega | ((try (have i_rfq := Imp.go rfq (by omega))); (try (have i_hsv := Imp.go hsv (by omega))); (try (have i_gkl := Imp.go gkl (by omega))); (try (have i_wh := Imp.go wh (by omega))); first | omega | ((try (have i_coc := Imp.go coc (by omega))); (try (have i_coc := Imp.go coc (by omega))); (try (have i_wh := Imp.go wh (by omega))); (try (have i_gkl := Imp.go gkl (by omega))); (try (have i_hsv := Imp.go hsv (by omega))); (try (have i_rfq := Imp.go rfq (by omega))); omega))) (fun q hq => by rcases Decidable.em (q = (Int32.toNatClampNeg p0)) with h9 | h9; (rw [h9, up2_s hV10]; omega); (rw [up2_k hV10 h9]; exact (fun q hq => by rw [up2_o hV8 (show ¬ (20 = 19) from by decide)]; exact (fun q hq => hq) q hq) q hq)) (by rw [up2_s hV10]; omega) (by rw [show (Int32.toInt 0).toNat = 0 from by decide]; exact rf0) (show (Int32.toInt 0) ≤ ((gs.1 (66 + 8 * gk) : Nat) : Int) from by first | exact om_f8f531ed37ab r144 | first | omega | ((try (have i_rfq := Imp.go rfq (by omega))); (try (have i_hsv := Imp.go hsv (by omega))); (try (have i_gkl := Imp.go gkl (by omega))); (try (have i_wh := Imp.go wh (by omega))); first | omega | ((try (have i_coc := Imp.go coc (by omega))); (try (have i_coc := Imp.go coc (by omega))); (try (have i_wh := Imp.go wh (by omega))); (try (have i_gkl := Imp.go gkl (by omega))); (try (have i_hsv := Imp.go hsv (by omega))); (try (have i_rfq := Imp.go rfq (by omega))); omega))) (by first | exact om_a4cbf953e09c | first | omega | ((try (have i_rfq := Imp.go rfq (by omega))); (try (have i_hsv := Imp.go hsv (by omega))); (try (have i_gkl := Imp.go gkl (by omega))); (try (have i_wh := Imp.go wh (by omega))); first | omega | ((try (have i_coc := Imp.go coc (by omega))); (try (have i_coc := Imp.go coc (by omega))); (try (have i_wh := Imp.go wh (by omega))); (try (have i_gkl := Imp.go gkl (by omega))); (try (have i_hsv := Imp.go hsv (by omega))); (try (have i_rfq := Imp.go rfq (by omega))); omega))) agr.rf hMV10 hP hD hS (lv_sub hl [0, 1, 2, 3] rfl)
  · skip
    have f146 : 24 ≤ p1.toInt := b_nlt rfl (by decide) c6
    have rp147 : ∀ q : Nat, (V 20 q).toInt ≠ -1 → (V 20 q).toInt ≠ -1 := (fun q hq => hq)
    exact W.vret hx hb hr (fun t ht hW => ⟨⟨(V, L), rfl, ⟨hMV, agV, rfl, (show (V 2 7).toInt + 192 * (cx V 24 : Int) ≤ (V 2 7).toInt + 192 * (cx V 24 : Int) from by first | exact om_b0110067cd1f | first | omega | ((try (have i_rfq := Imp.go rfq (by omega))); (try (have i_hsv := Imp.go hsv (by omega))); (try (have i_gkl := Imp.go gkl (by omega))); (try (have i_wh := Imp.go wh (by omega))); first | omega | ((try (have i_coc := Imp.go coc (by omega))); (try (have i_coc := Imp.go coc (by omega))); (try (have i_wh := Imp.go wh (by omega))); (try (have i_gkl := Imp.go gkl (by omega))); (try (have i_hsv := Imp.go hsv (by omega))); (try (have i_rfq := Imp.go rfq (by omega))); omega))), (show (V 2 7).toInt ≤ (V 2 7).toInt from by first | exact om_5977f3d8a10f | first | omega | ((try (have i_rfq := Imp.go rfq (by omega))); (try (have i_hsv := Imp.go hsv (by omega))); (try (have i_gkl := Imp.go gkl (by omega))); (try (have i_wh := Imp.go wh (by omega))); first | omega | ((try (have i_coc := Imp.go coc (by omega))); (try (have i_coc := Imp.go coc (by omega))); (try (have i_wh := Imp.go wh (by omega))); (try (have i_gkl := Imp.go gkl (by omega))); (try (have i_hsv := Imp.go hsv (by omega))); (try (have i_rfq := Imp.go rfq (by omega))); omega))), rp147, (by rw [show 24 - dq = 0 from by omega]; exact rfq)⟩, by rw [ht]; exact hP, va_K.moved hW.alike hK, hD⟩, hS.F ht⟩) hS.2.2 dX2_follow_6
theorem K_follow5 {l : Launch} {D : va_G} {ks : KS} : ∀ dd, K_x_follow5 l D ks dd
  | 0 => x_follow5 (fun d9 h => absurd h (by omega))
  | d + 1 => x_follow5 (fun d9 h => by
    have e : d9 = d := by omega
    subst e
    exact K_follow5 d9)
end
