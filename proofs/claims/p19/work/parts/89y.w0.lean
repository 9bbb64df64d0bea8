section
/-! named(): what both answer -/
def nmF (T : Tk) (s : St) (j : Int) : Int := if T.1 0 = 3 ∧ T.1 1 = 0 ∧ 0 ≤ j ∧ j < 5 then (match fndI (s.2.1 j.toNat) (T.2.1 0) with | some i => (i : Int) | none => -1) else -1
theorem nmF_n {T : Tk} {s : St} {j : Int} (h : ¬ (T.1 0 = 3 ∧ T.1 1 = 0 ∧ 0 ≤ j ∧ j < 5)) : nmF T s j = -1 := if_neg h
theorem nmF_y {T : Tk} {s : St} {j : Nat} {i : Nat} (h : T.1 0 = 3) (h1 : T.1 1 = 0) (hj : j < 5) (e : fndI (s.2.1 j) (T.2.1 0) = some i) : nmF T s (j : Int) = (i : Int) := by
  unfold nmF
  rw [if_pos ⟨h, h1, by omega, by omega⟩, Int.toNat_natCast, e]
theorem nmF_e {T : Tk} {s : St} {j : Nat} (h : T.1 0 = 3) (h1 : T.1 1 = 0) (hj : j < 5) (e : fndI (s.2.1 j) (T.2.1 0) = none) : nmF T s (j : Int) = -1 := by
  unfold nmF
  rw [if_pos ⟨h, h1, by omega, by omega⟩, Int.toNat_natCast, e]
theorem NF.nm {V : Vf} {L : Lf} {T : Tk} {b j : Nat} {s : St} {w : Int64} {r : Int} (h : NF (fun i => L 44 (24 * (5 * b + j) + i)) (V 43 (5 * b + j)).toInt w r) (t : TBc V L b s) (hj : j < 5) (k0 : T.1 0 = 3) (k1 : T.1 1 = 0) (hw : T.2.1 0 = w) : r = nmF T s (j : Int) := by
  rcases (show r = -1 ∨ 0 ≤ r from by rcases h with ⟨q, _⟩ | ⟨i, q, _⟩ <;> omega) with c | c
  · rw [nmF_e k0 k1 hj (by rw [hw]; exact h.no (t j hj) c)]
    exact c
  · rw [nmF_y k0 k1 hj (by rw [hw]; exact h.yes (t j hj) c)]
    omega
theorem CTE.k1 {V W W1 : Vf} {L M M1 : Lf} (c : CTE V L W M) (u : CUR W1 M1 (Int32.toNatClampNeg (W 6 8))) (e12 : W1 12 = W 12) (h3 : (W 12 0).toInt = 3) : (W1 6 9).toInt = (W 12 1).toInt := by
  have cu := c.2.2.2.2
  have z := cu.2.2.2.2
  have t0 := cu.1
  by_cases d : (((0 : Nat) : Int)) < (W 6 7).toInt
  · rw [if_pos d] at z
    have kc := i_clamp (x := W 6 8) rfl (by omega)
    have e1 : Int32.toNatClampNeg (W 6 8) = 1 := by omega
    rw [e1] at u
    rw [u.2.1, e12]
  · have e0 : (W 6 7).toInt.toNat = 0 := by omega
    have y := c.2.2.1
    rw [e0] at y
    rw [y] at h3
    exact absurd h3 (by decide)
theorem TkM.nm0 {V : Vf} {L : Lf} {T : Tk} {n : Nat} (t : TkM V L T n) (h : (V 4 0).toInt ≠ 1) : T.1 0 ≠ 3 := by
  intro e
  rcases Nat.eq_zero_or_pos n with d | d
  · subst d
    have y := t.2.2.1
    omega
  · exact h ((t.2.1 0 d).1.nm.mpr e).1
theorem TkM.nm1 {V : Vf} {L : Lf} {T : Tk} {n : Nat} (t : TkM V L T n) (h0 : (V 4 0).toInt = 1) (h1 : (V 4 1).toInt ≠ 0) : T.1 1 ≠ 0 := by
  rcases (show n = 0 ∨ n = 1 ∨ 1 < n from by omega) with d | d | d
  · subst d
    have y := t.2.2.2.1
    omega
  · subst d
    exact absurd t.2.2.2.1 h1
  · have y := (t.2.1 1 d).1.rg
    omega
theorem TkM.nm2 {V : Vf} {L : Lf} {T : Tk} {n : Nat} (t : TkM V L T n) (h0 : (V 4 0).toInt = 1) (h1 : (V 4 1).toInt = 0) : T.1 1 = 0 ∧ ((T.1 0 = 3 ∧ T.2.1 0 = L 6 0) ∨ (T.1 0 ≠ 3 ∧ ∃ k : Nat, k < 28 ∧ kg 155 k = L 6 0)) := by
  rcases (show n = 0 ∨ n = 1 ∨ 1 < n from by omega) with d | d | d
  · subst d
    have y := t.2.2.2.1
    omega
  · subst d
    refine ⟨t.2.2.1, ?_⟩
    have y := (t.2.1 0 (by decide)).1
    by_cases c : T.1 0 = 3
    · exact Or.inl ⟨c, y.vl (Or.inr c)⟩
    · refine Or.inr ⟨c, ?_⟩
      rcases y with y | y | ⟨_, y, _⟩ | ⟨y, _⟩
      · omega
      · omega
      · rcases y with ⟨y, _⟩ | ⟨k, a, _, b⟩
        · exact absurd y c
        · exact ⟨k, a, b⟩
      · omega
  · have y := (t.2.1 1 d).1.rg
    omega
theorem LF.nm {f : Nat → Int64} {m : Int} {w : Int64} {r : Int} {T : Tk} {s : St} {j : Nat} (lf : LF f m w r) (ls : LSw (s.2.1 j) f m) (nd : NDl (s.2.1 j)) (nk : ∀ x, x ∈ s.2.1 j → ∀ k : Nat, k < 28 → x ≠ kg 155 k) (hj : j < 5) (d : T.1 1 = 0 ∧ ((T.1 0 = 3 ∧ T.2.1 0 = w) ∨ (T.1 0 ≠ 3 ∧ ∃ k : Nat, k < 28 ∧ kg 155 k = w))) : r = nmF T s (j : Int) := by
  rcases d with ⟨d1, ⟨a, b⟩ | ⟨a, k, hk, b⟩⟩
  · rcases (show r = -1 ∨ 0 ≤ r from by rcases lf with ⟨q, _⟩ | ⟨i, q, _⟩ <;> omega) with c | c
    · rw [nmF_e a d1 hj (by rw [b]; exact lf.no ls c)]
      exact c
    · rw [nmF_y a d1 hj (by rw [b]; exact lf.yes ls nd c)]
      omega
  · rw [nmF_n (fun q => a q.1)]
    rcases lf with ⟨q, _⟩ | ⟨i, q, qi, qf⟩
    · exact q
    · exfalso
      have hl : i < (s.2.1 j).length := by have := ls.1; omega
      have e := ls.2 i hl
      exact nk _ (List.getElem_mem hl) k hk (by rw [e, qf, b])
/-! what the law keeps of the names -/
def LN4 (V : Vf) (L : Lf) (b : Nat) (Vm : Vf) (Lm : Lf) (q : Nat) : Prop := ∃ s : St, TBc V L b s ∧ TBm Vm Lm q s (s.2.1 2) ∧ NKs s
theorem LSw.row {l : List Int64} {f g : Nat → Int64} {n : Int} (h : LSw l f n) (e : ∀ i, i < l.length → g i = f i) : LSw l g n := ⟨h.1, fun i hi => by rw [h.2 i hi, e i hi]⟩
theorem TBc.row {V W : Vf} {L M : Lf} {b b1 : Nat} {s : St} (h : TBc V L b s) (hM : rgd bX V) (hb : b + b1 = 1) (hV : ∀ k, ¬ (5 * b1 ≤ k ∧ k < 5 * b1 + 5) → W 43 k = V 43 k) (hL : ROWL b1 L M) : TBc W M b s := by
  intro j hj
  have z := h j hj
  have c2 : (V 43 (5 * b + j)).toInt ≤ ((xcap (5 * b + j) : Nat) : Int) := (hM 43 _).2
  have c3 := (xcap_le (5 * b + j)).2
  have c := z.1
  rw [hV _ (by omega)]
  exact z.row (fun i hi => hL _ (by omega))
theorem TBm.row {V W : Vf} {L M : Lf} {q q' : Nat} {s : St} {l2 : List Int64} (h : TBm V L q s l2) (hM : rgd bM V) (hq : q + q' = 1) (v13 : RoV 13 q' V W) (v16 : RoV 16 q' V W) (v19 : RoV 19 q' V W) (v35 : RoV 35 q' V W) (v37 : RoV 37 q' V W) (l14 : RoL 14 24 q' L M) (l17 : RoL 17 12 q' L M) (l20 : RoL 20 24 q' L M) (l36 : RoL 36 20 q' L M) (l38 : RoL 38 20 q' L M) : TBm W M q s l2 := by
  have n : ¬ q = q' := by omega
  have b13 : (V 13 q).toInt ≤ 24 := (hM 13 q).2
  have b16 : (V 16 q).toInt ≤ 12 := (hM 16 q).2
  have b19 : (V 19 q).toInt ≤ 24 := (hM 19 q).2
  have b35 : (V 35 q).toInt ≤ 20 := (hM 35 q).2
  have b37 : (V 37 q).toInt ≤ 20 := (hM 37 q).2
  obtain ⟨⟨a0, d0⟩, ⟨a1, d1⟩, ⟨a2, d2⟩, ⟨a3, d3⟩, ⟨a4, d4⟩⟩ := h
  have c0 := a0.1
  have c1 := a1.1
  have c2 := a2.1
  have c3 := a3.1
  have c4 := a4.1
  unfold TBm
  rw [v13 q n, v16 q n, v19 q n, v35 q n, v37 q n]
  exact ⟨⟨a0.row (fun i hi => l14 _ (by omega)), d0⟩, ⟨a1.row (fun i hi => l17 _ (by omega)), d1⟩, ⟨a2.row (fun i hi => l20 _ (by omega)), d2⟩, ⟨a3.row (fun i hi => l36 _ (by omega)), d3⟩, ⟨a4.row (fun i hi => l38 _ (by omega)), d4⟩⟩
theorem LN4.mv {V V1 Vm Vm1 : Vf} {L L1 Lm Lm1 : Lf} {b q : Nat} (h : LN4 V L b Vm Lm q) (e43 : V1 43 = V 43) (m44 : L1 44 = L 44) (e13 : Vm1 13 = Vm 13) (e16 : Vm1 16 = Vm 16) (e19 : Vm1 19 = Vm 19) (e35 : Vm1 35 = Vm 35) (e37 : Vm1 37 = Vm 37) (m14 : Lm1 14 = Lm 14) (m17 : Lm1 17 = Lm 17) (m20 : Lm1 20 = Lm 20) (m36 : Lm1 36 = Lm 36) (m38 : Lm1 38 = Lm 38) : LN4 V1 L1 b Vm1 Lm1 q := by
  obtain ⟨s, a, c, d⟩ := h
  exact ⟨s, a.mv e43 m44, c.ag (congrFun e13 q) (congrFun e16 q) (congrFun e19 q) (congrFun e35 q) (congrFun e37 q) m14 m17 m20 m36 m38 rfl, d⟩
theorem BRES.fin {T : Tk} {a : Int} {P : St → Prop} {s' : St} (h : BRES T a P) (k : Rc T (Crun St0 [Istmt]) (Cdone s')) : P s' := by
  unfold BRES at h
  rcases h with ⟨_, s, h1, p⟩ | h1
  · have z := h1.uq k trivial trivial
    injection z with z
    injection z with z
    rw [← z]
    exact p
  · have z := h1.uq k trivial trivial
    injection z with z
    cases z


abbrev r_x_numberOf4 : Room := { frames := 1, cells := 0, slots := 0, locals := 23 }
abbrev q_x_numberOf4 (D : va_G) (ks : KS) (ad : Nat → Nat) (kk : Nat → ClassId) (V : Vf) (L : Lf) (Z : XZ) (p0 : Int64) (p1 : Int32) (b : Nat) (A : Nat → Prop) : Array Value → State → Outcome → State → Prop := va_Qi (fun (r : Int32) (_ : Unit) => ((∀ j : Nat, j < 5 → p1.toInt = (j : Int) → NF (fun i => L 44 (24 * (5 * b + j) + i)) (V 43 (5 * b + j)).toInt p0 r.toInt) ∧ (¬ (0 ≤ p1.toInt ∧ p1.toInt < 5) → r.toInt = -1))) (fun _ t => gq D A (xw ad kk V L Z) (xty kk Z) t) A
set_option maxHeartbeats 4000000 in
set_option maxRecDepth 100000 in
theorem x_numberOf4 (l : Launch) (D : va_G) (ks : KS) (sz : Nat) (ad : Nat → Nat) (kk : Nat → ClassId) (V : Vf) (L : Lf) (Z : XZ) (p0 : Int64) (p1 : Int32) (b : Nat) (hMV : rgd bX V) (hb2 : b < 2)  : Met l yX0_numberOf (Cond.code yX0_numberOf cX0_numberOf 4 (some .int) :: GW) r_x_numberOf4 (va_Pc [.ref (ad (38 + b)), .long p0, .int p1] (gp D ks (xw ad kk V L Z) (xty kk Z) sz)) (q_x_numberOf4 D ks ad kk V L Z p0 p1 b (va_A (xw ad kk V L Z) sz)) 0 0 (va_A (xw ad kk V L Z) sz) := by
  refine g_met (q_x_numberOf4 D ks ad kk V L Z p0 p1 b) (by decide) (Nat.le_of_ble_eq_true rfl) ?_
  intro p e s m below meth c A ls H locs hx hb hr hml hown hg hlocks hin hnw hgk hP hK hD hS hA hl
  replace hown : s.vm.findClass RX0 = some m.cls := hown
  replace hl : lv_has ls 4 [(0, .ref (ad (38 + b))), (1, .long p0), (3, .int p1)] := hl
  replace hP : va_P D vwCl (xw ad kk V L Z) H := hP
  replace hD : va_D A (xw ad kk V L Z) := hD
  replace hK : va_K D vwCl (xty kk Z) s := hK
  have rf_p1 := i_full p1
  refine lv_iload_n hx hb dX0_numberOf_0 rfl (lv_at hl 2 rfl) ?_
  by_cases q1 : p1 = 0
  · refine g_top (v := 0) q1 ?_
    have fq1 : p1.toInt = 0 := b_eq rfl (by decide) q1
    refine lv_tableIn (x := 0) (off := 35) (tgt := 36) hx hb dX0_numberOf_1 (by decide) (by decide) (by decide) (by decide) ?_
    refine lv_aload_n hx hb dX0_numberOf_36 rfl (lv_at hl 0 rfl) ?_
    refine va_get (D := D) (ci := 0) (v := .ref (ad (40 + (5 * b + 0)))) (fs := (xfBook ad V b)) (C := RX0) (T := TX0) (N := 13) hx hb hg inX0 hown hK hP (38 + b) (xgBook hb2) rfl 0 (by decide) (hg _ w593) (fun _ h9 => h9) rfl dX0_numberOf_37 ?_
    refine lv_lload_n hx hb dX0_numberOf_40 rfl (lv_at hl 1 rfl) ?_
    have il2 : (5 * b + 0) < 10 := by (first | exact om_99c4753a5d76 hb2 | omega)
    refine gA_int (gA_runV (As := [.long p0]) (rest := []) (ci := 6) (q0 := (40 + (5 * b + 0))) hx hb hml hown hg hP hD hK hS hA hnw hgk (x_find2 l D ks H.size ad kk V L Z p0 ((5 * b + 0)) hMV (show (5 * b + 0) < 10 from by (first | exact om_99c4753a5d76 hb2 | omega))) w880 w881 w882 w168 w883 rfl (xgNames il2) hdV_yX6_find ⟨Nat.le_of_ble_eq_true rfl, Nat.le_of_ble_eq_true rfl⟩ rfl hl.1 rfl (Nat.le_of_ble_eq_true rfl) dX0_numberOf_41 ⟨Nat.le_of_ble_eq_true rfl, Nat.le_of_ble_eq_true rfl⟩) hP hD hK hS hA (fun z3 u4 H locs w5 hP hD hK hS => ?_)
    obtain ⟨rgz3, t6, t7⟩ := w5
    replace rgz3 : (-1) ≤ z3.toInt ∧ z3.toInt ≤ 23 := rgz3
    replace t6 : z3.toInt < (V 43 (5 * b + 0)).toInt := t6
    replace t7 : NF (fun i => L 44 (24 * (5 * b + 0) + i)) (V 43 (5 * b + 0)).toInt p0 z3.toInt := t7
    exact W.iret (v := z3) hx hb hr (fun t ht hW => ⟨⟨z3, (), rfl, ⟨fun j hj e9 => (show j = 0 from by omega) ▸ t7, fun h9 => absurd ⟨by omega, by omega⟩ h9⟩, by rw [ht]; exact hP, va_K.moved hW.alike hK, hD⟩, hS.F ht⟩) hS.2.2 dX0_numberOf_44
  by_cases q8 : p1 = 1
  · refine g_top (v := 1) q8 ?_
    have fq8 : p1.toInt = 1 := b_eq rfl (by decide) q8
    refine lv_tableIn (x := 1) (off := 44) (tgt := 45) hx hb dX0_numberOf_1 (by decide) (by decide) (by decide) (by decide) ?_
    refine lv_aload_n hx hb dX0_numberOf_45 rfl (lv_at hl 0 rfl) ?_
    refine va_get (D := D) (ci := 0) (v := .ref (ad (40 + (5 * b + 1)))) (fs := (xfBook ad V b)) (C := RX0) (T := TX0) (N := 13) hx hb hg inX0 hown hK hP (38 + b) (xgBook hb2) rfl 1 (by decide) (hg _ w596) (fun _ h9 => h9) rfl dX0_numberOf_46 ?_
    refine lv_lload_n hx hb dX0_numberOf_49 rfl (lv_at hl 1 rfl) ?_
    have il9 : (5 * b + 1) < 10 := by (first | exact om_3891d7acfde9 hb2 | omega)
    refine gA_int (gA_runV (As := [.long p0]) (rest := []) (ci := 6) (q0 := (40 + (5 * b + 1))) hx hb hml hown hg hP hD hK hS hA hnw hgk (x_find2 l D ks H.size ad kk V L Z p0 ((5 * b + 1)) hMV (show (5 * b + 1) < 10 from by (first | exact om_3891d7acfde9 hb2 | omega))) w880 w881 w882 w168 w883 rfl (xgNames il9) hdV_yX6_find ⟨Nat.le_of_ble_eq_true rfl, Nat.le_of_ble_eq_true rfl⟩ rfl hl.1 rfl (Nat.le_of_ble_eq_true rfl) dX0_numberOf_50 ⟨Nat.le_of_ble_eq_true rfl, Nat.le_of_ble_eq_true rfl⟩) hP hD hK hS hA (fun z10 u11 H locs w12 hP hD hK hS => ?_)
    obtain ⟨rgz10, t13, t14⟩ := w12
    replace rgz10 : (-1) ≤ z10.toInt ∧ z10.toInt ≤ 23 := rgz10
    replace t13 : z10.toInt < (V 43 (5 * b + 1)).toInt := t13
    replace t14 : NF (fun i => L 44 (24 * (5 * b + 1) + i)) (V 43 (5 * b + 1)).toInt p0 z10.toInt := t14
    exact W.iret (v := z10) hx hb hr (fun t ht hW => ⟨⟨z10, (), rfl, ⟨fun j hj e9 => (show j = 1 from by omega) ▸ t14, fun h9 => absurd ⟨by omega, by omega⟩ h9⟩, by rw [ht]; exact hP, va_K.moved hW.alike hK, hD⟩, hS.F ht⟩) hS.2.2 dX0_numberOf_53
  by_cases q15 : p1 = 2
  · refine g_top (v := 2) q15 ?_
    have fq15 : p1.toInt = 2 := b_eq rfl (by decide) q15
    refine lv_tableIn (x := 2) (off := 53) (tgt := 54) hx hb dX0_numberOf_1 (by decide) (by decide) (by decide) (by decide) ?_
    refine lv_aload_n hx hb dX0_numberOf_54 rfl (lv_at hl 0 rfl) ?_
    refine va_get (D := D) (ci := 0) (v := .ref (ad (40 + (5 * b + 2)))) (fs := (xfBook ad V b)) (C := RX0) (T := TX0) (N := 13) hx hb hg inX0 hown hK hP (38 + b) (xgBook hb2) rfl 2 (by decide) (hg _ w599) (fun _ h9 => h9) rfl dX0_numberOf_55 ?_
    refine lv_lload_n hx hb dX0_numberOf_58 rfl (lv_at hl 1 rfl) ?_
    have il16 : (5 * b + 2) < 10 := by (first | exact om_1478e52fbf50 hb2 | omega)
    refine gA_int (gA_runV (As := [.long p0]) (rest := []) (ci := 6) (q0 := (40 + (5 * b + 2))) hx hb hml hown hg hP hD hK hS hA hnw hgk (x_find2 l D ks H.size ad kk V L Z p0 ((5 * b + 2)) hMV (show (5 * b + 2) < 10 from by (first | exact om_1478e52fbf50 hb2 | omega))) w880 w881 w882 w168 w883 rfl (xgNames il16) hdV_yX6_find ⟨Nat.le_of_ble_eq_true rfl, Nat.le_of_ble_eq_true rfl⟩ rfl hl.1 rfl (Nat.le_of_ble_eq_true rfl) dX0_numberOf_59 ⟨Nat.le_of_ble_eq_true rfl, Nat.le_of_ble_eq_true rfl⟩) hP hD hK hS hA (fun z17 u18 H locs w19 hP hD hK hS => ?_)
    obtain ⟨rgz17, t20, t21⟩ := w19
    replace rgz17 : (-1) ≤ z17.toInt ∧ z17.toInt ≤ 23 := rgz17
    replace t20 : z17.toInt < (V 43 (5 * b + 2)).toInt := t20
    replace t21 : NF (fun i => L 44 (24 * (5 * b + 2) + i)) (V 43 (5 * b + 2)).toInt p0 z17.toInt := t21
    exact W.iret (v := z17) hx hb hr (fun t ht hW => ⟨⟨z17, (), rfl, ⟨fun j hj e9 => (show j = 2 from by omega) ▸ t21, fun h9 => absurd ⟨by omega, by omega⟩ h9⟩, by rw [ht]; exact hP, va_K.moved hW.alike hK, hD⟩, hS.F ht⟩) hS.2.2 dX0_numberOf_62
  by_cases q22 : p1 = 3
  · refine g_top (v := 3) q22 ?_
    have fq22 : p1.toInt = 3 := b_eq rfl (by decide) q22
    refine lv_tableIn (x := 3) (off := 62) (tgt := 63) hx hb dX0_numberOf_1 (by decide) (by decide) (by decide) (by decide) ?_
    refine lv_aload_n hx hb dX0_numberOf_63 rfl (lv_at hl 0 rfl) ?_
    refine va_get (D := D) (ci := 0) (v := .ref (ad (40 + (5 * b + 3)))) (fs := (xfBook ad V b)) (C := RX0) (T := TX0) (N := 13) hx hb hg inX0 hown hK hP (38 + b) (xgBook hb2) rfl 3 (by decide) (hg _ w603) (fun _ h9 => h9) rfl dX0_numberOf_64 ?_
    refine lv_lload_n hx hb dX0_numberOf_67 rfl (lv_at hl 1 rfl) ?_
    have il23 : (5 * b + 3) < 10 := by (first | exact om_a4f98a710256 hb2 | omega)
    refine gA_int (gA_runV (As := [.long p0]) (rest := []) (ci := 6) (q0 := (40 + (5 * b + 3))) hx hb hml hown hg hP hD hK hS hA hnw hgk (x_find2 l D ks H.size ad kk V L Z p0 ((5 * b + 3)) hMV (show (5 * b + 3) < 10 from by (first | exact om_a4f98a710256 hb2 | omega))) w880 w881 w882 w168 w883 rfl (xgNames il23) hdV_yX6_find ⟨Nat.le_of_ble_eq_true rfl, Nat.le_of_ble_eq_true rfl⟩ rfl hl.1 rfl (Nat.le_of_ble_eq_true rfl) dX0_numberOf_68 ⟨Nat.le_of_ble_eq_true rfl, Nat.le_of_ble_eq_true rfl⟩) hP hD hK hS hA (fun z24 u25 H locs w26 hP hD hK hS => ?_)
    obtain ⟨rgz24, t27, t28⟩ := w26
    replace rgz24 : (-1) ≤ z24.toInt ∧ z24.toInt ≤ 23 := rgz24
    replace t27 : z24.toInt < (V 43 (5 * b + 3)).toInt := t27
    replace t28 : NF (fun i => L 44 (24 * (5 * b + 3) + i)) (V 43 (5 * b + 3)).toInt p0 z24.toInt := t28
    exact W.iret (v := z24) hx hb hr (fun t ht hW => ⟨⟨z24, (), rfl, ⟨fun j hj e9 => (show j = 3 from by omega) ▸ t28, fun h9 => absurd ⟨by omega, by omega⟩ h9⟩, by rw [ht]; exact hP, va_K.moved hW.alike hK, hD⟩, hS.F ht⟩) hS.2.2 dX0_numberOf_71
  by_cases q29 : p1 = 4
  · refine g_top (v := 4) q29 ?_
    have fq29 : p1.toInt = 4 := b_eq rfl (by decide) q29
    refine lv_tableIn (x := 4) (off := 71) (tgt := 72) hx hb dX0_numberOf_1 (by decide) (by decide) (by decide) (by decide) ?_
    refine lv_aload_n hx hb dX0_numberOf_72 rfl (lv_at hl 0 rfl) ?_
    refine va_get (D := D) (ci := 0) (v := .ref (ad (40 + (5 * b + 4)))) (fs := (xfBook ad V b)) (C := RX0) (T := TX0) (N := 13) hx hb hg inX0 hown hK hP (38 + b) (xgBook hb2) rfl 4 (by decide) (hg _ w606) (fun _ h9 => h9) rfl dX0_numberOf_73 ?_
    refine lv_lload_n hx hb dX0_numberOf_76 rfl (lv_at hl 1 rfl) ?_
    have il30 : (5 * b + 4) < 10 := by (first | exact om_3aaf7229373d hb2 | omega)
    refine gA_int (gA_runV (As := [.long p0]) (rest := []) (ci := 6) (q0 := (40 + (5 * b + 4))) hx hb hml hown hg hP hD hK hS hA hnw hgk (x_find2 l D ks H.size ad kk V L Z p0 ((5 * b + 4)) hMV (show (5 * b + 4) < 10 from by (first | exact om_3aaf7229373d hb2 | omega))) w880 w881 w882 w168 w883 rfl (xgNames il30) hdV_yX6_find ⟨Nat.le_of_ble_eq_true rfl, Nat.le_of_ble_eq_true rfl⟩ rfl hl.1 rfl (Nat.le_of_ble_eq_true rfl) dX0_numberOf_77 ⟨Nat.le_of_ble_eq_true rfl, Nat.le_of_ble_eq_true rfl⟩) hP hD hK hS hA (fun z31 u32 H locs w33 hP hD hK hS => ?_)
    obtain ⟨rgz31, t34, t35⟩ := w33
    replace rgz31 : (-1) ≤ z31.toInt ∧ z31.toInt ≤ 23 := rgz31
    replace t34 : z31.toInt < (V 43 (5 * b + 4)).toInt := t34
    replace t35 : NF (fun i => L 44 (24 * (5 * b + 4) + i)) (V 43 (5 * b + 4)).toInt p0 z31.toInt := t35
    exact W.iret (v := z31) hx hb hr (fun t ht hW => ⟨⟨z31, (), rfl, ⟨fun j hj e9 => (show j = 4 from by omega) ▸ t35, fun h9 => absurd ⟨by omega, by omega⟩ h9⟩, by rw [ht]; exact hP, va_K.moved hW.alike hK, hD⟩, hS.F ht⟩) hS.2.2 dX0_numberOf_80
  refine lv_tableOut (x := p1) (tgt := 81) hx hb dX0_numberOf_1 (tab_out p1 4 (by decide) (fun k hk => match k, hk with | 0, _ => q1 | 1, _ => q8 | 2, _ => q15 | 3, _ => q22 | 4, _ => q29 | k + 5, hk => absurd hk (by omega))) (by decide) ?_
  have gd36 : p1.toInt ≠ 0 := fun h9 => q1 (Int32.toInt_inj.mp (h9.trans (by decide)))
  have gd37 : p1.toInt ≠ 1 := fun h9 => q8 (Int32.toInt_inj.mp (h9.trans (by decide)))
  have gd38 : p1.toInt ≠ 2 := fun h9 => q15 (Int32.toInt_inj.mp (h9.trans (by decide)))
  have gd39 : p1.toInt ≠ 3 := fun h9 => q22 (Int32.toInt_inj.mp (h9.trans (by decide)))
  have gd40 : p1.toInt ≠ 4 := fun h9 => q29 (Int32.toInt_inj.mp (h9.trans (by decide)))
  refine lv_iconst (v := (-1)) hx hb dX0_numberOf_81 (by decide) ?_
  exact W.iret (v := (-1)) hx hb hr (fun t ht hW => ⟨⟨(-1), (), rfl, ⟨fun j hj e9 => absurd e9 (by omega), fun _ => by decide⟩, by rw [ht]; exact hP, va_K.moved hW.alike hK, hD⟩, hS.F ht⟩) hS.2.2 dX0_numberOf_82
abbrev r_x_h_named4 : Room := { frames := 6, cells := 0, slots := 0, locals := 133 }
abbrev q_x_h_named4 (D : va_G) (ks : KS) (ad : Nat → Nat) (kk : Nat → ClassId) (V : Vf) (L : Lf) (Z : XZ) (p0 : Int32) (b : Nat) (A : Nat → Prop) : Array Value → State → Outcome → State → Prop := va_Qi (fun (r : Int32) (u : Vf × Lf) => rgd bX u.1 ∧ agr [(6, 5), (6, 6), (6, 7), (6, 8), (6, 9), (6, 10)] [12, 13, 14] V u.1 ∧ agL [6, 14] L u.2 ∧ (∃ (W9 : Vf) (M9 : Lf), CTx V L W9 M9 ∧ 0 ≤ (W9 6 7).toInt ∧ ∀ s9 : St, TBc V L b s9 → r.toInt = nmF (tkOf W9 M9) s9 p0.toInt)) (fun u t => gq D A (xw ad kk u.1 u.2 Z) (xty kk Z) t) A
set_option maxHeartbeats 4000000 in
set_option maxRecDepth 100000 in
theorem x_h_named4 (l : Launch) (D : va_G) (ks : KS) (sz : Nat) (ad : Nat → Nat) (kk : Nat → ClassId) (V : Vf) (L : Lf) (Z : XZ) (p0 : Int32) (b : Nat) (hMV : rgd bX V) (hb2 : b < 2) (shk : (V 0 6).toInt = (b : Int)) (bp1 : ∀ k : Nat, (k : Int) < (V 6 5).toInt → isTp (V 10 k))  : Met l yX11_named (Cond.code yX11_named cX11_named 6 (some .int) :: GW) r_x_h_named4 (va_Pc [.ref (ad 0), .int p0] (gp D ks (xw ad kk V L Z) (xty kk Z) sz)) (q_x_h_named4 D ks ad kk V L Z p0 b (va_A (xw ad kk V L Z) sz)) 0 0 (va_A (xw ad kk V L Z) sz) := by
  refine g_met (q_x_h_named4 D ks ad kk V L Z p0 b) (by decide) (Nat.le_of_ble_eq_true rfl) ?_
  intro p e s m below meth c A ls H locs hx hb hr hml hown hg hlocks hin hnw hgk hP hK hD hS hA hl
  replace hown : s.vm.findClass RX11 = some m.cls := hown
  replace hl : lv_has ls 6 [(0, .ref (ad 0)), (1, .int p0)] := hl
  replace hP : va_P D vwCl (xw ad kk V L Z) H := hP
  replace hD : va_D A (xw ad kk V L Z) := hD
  replace hK : va_K D vwCl (xty kk Z) s := hK
  have agV : agr [(6, 5), (6, 6), (6, 7), (6, 8), (6, 9), (6, 10)] [12, 13, 14] V V := agr.rf
  have alL : agL [6, 14] L L := agL.rf
  have rf_p0 := i_full p0
  have r1 : 0 ≤ ((V 0 6)).toInt ∧ ((V 0 6)).toInt ≤ 1 := hMV 0 6
  refine lv_aload_n hx hb dX11_named_0 rfl (lv_at hl 0 rfl) ?_
  refine va_get (D := D) (ci := 11) (v := .ref (ad 6)) (fs := (xfHouse ad V L Z)) (C := RX11) (T := TX11) (N := 10) hx hb hg inX11 hown hK hP 0 xgHouse rfl 0 (by decide) (hg _ w715) (fun _ h9 => h9) rfl dX11_named_1 ?_
  refine gA_void (gA_runV (As := []) (rest := []) (ci := 9) (q0 := 6) hx hb hml hown hg hP hD hK hS hA hnw hgk (x_begin2 l D ks H.size ad kk V L Z  hMV bp1) w1051 w767 w768 w157 w769 rfl xgTape hdV_yX9_begin ⟨Nat.le_of_ble_eq_true rfl, Nat.le_of_ble_eq_true rfl⟩ rfl hl.1 rfl (Nat.le_of_ble_eq_true rfl) dX11_named_4 ⟨Nat.le_of_ble_eq_true rfl, Nat.le_of_ble_eq_true rfl⟩) hP hD hK hS hA (fun u3 H locs w4 hP hD hK hS => ?_)
  obtain ⟨V7, L8⟩ := u3
  obtain ⟨hMV7, ajV7, axL8, t5, t6⟩ := w4
  have alL8 : agL [6, 14] L L8 := agL.tr alL axL8 (by decide)
  replace hP : va_P D vwCl (xw ad kk V7 L8 Z) H := hP
  replace hD : va_D A (xw ad kk V7 L8 Z) := hD
  replace hMV7 : rgd bX V7 := hMV7
  replace ajV7 : agr [(6, 6), (6, 7), (6, 8), (6, 9), (6, 10)] [12, 13, 14] V V7 := ajV7
  have agV7 : agr [(6, 5), (6, 6), (6, 7), (6, 8), (6, 9), (6, 10)] [12, 13, 14] V V7 := agV.tr ajV7 (by decide) (by decide)
  replace t5 : (V7 6 8).toInt ≤ (V7 6 7).toInt := t5
  replace t6 : CTE V L V7 L8 := t6
  have r9 : 0 ≤ ((V7 6 8)).toInt ∧ ((V7 6 8)).toInt ≤ 4000 := hMV7 6 8
  have r10 : 0 ≤ ((V7 6 7)).toInt ∧ ((V7 6 7)).toInt ≤ 4000 := hMV7 6 7
  have ct4 : CTE V L V7 L8 := t6
  have k04 : (V7 6 9).toInt = (tkOf V7 L8).1 0 := congrArg Int32.toInt ct4.2.2.2.2.2.1
  have v04 : L8 6 11 = (tkOf V7 L8).2.1 0 := ct4.2.2.2.2.2.2.2.1
  refine lv_aload_n hx hb dX11_named_7 rfl (lv_at hl 0 rfl) ?_
  refine va_get (D := D) (ci := 11) (v := .ref (ad 6)) (fs := (xfHouse ad V7 L8 Z)) (C := RX11) (T := TX11) (N := 10) hx hb hg inX11 hown hK hP 0 xgHouse rfl 0 (by decide) (hg _ w715) (fun _ h9 => h9) rfl dX11_named_8 ?_
  refine va_getN (D := D) (ci := 9) (v := .int (V7 6 9)) (fs := (xfTape ad V7 L8 Z)) (C := RX9) (T := TX9) (N := 12) hx hb hg inX9 hown hK hP 6 xgTape rfl 9 (by decide) (hnw.use 263 n263 rfl) (fun _ h9 => h9) rfl dX11_named_11 ?_
  refine lv_iconst (v := 3) hx hb dX11_named_14 (by decide) ?_
  refine lv_icmp_ne (tgt := 22) hx hb dX11_named_15 (by decide) (fun c11 => ?_) (fun c11 => ?_)
  · skip
    have f12 : ((V7 6 9)).toInt ≠ 3 := b_neq rfl (by decide) c11
    refine lv_iconst (v := 0) hx hb dX11_named_22 (by decide) ?_
    refine lv_istore_n (lv' := [(2, .int 0), (0, .ref (ad 0)), (1, .int p0)]) hx hb dX11_named_23 rfl hl (by decide) rfl (fun ls hl => ?_)
    refine lv_aload_n hx hb dX11_named_24 rfl (lv_at hl 1 rfl) ?_
    refine va_get (D := D) (ci := 11) (v := .ref (ad 6)) (fs := (xfHouse ad V7 L8 Z)) (C := RX11) (T := TX11) (N := 10) hx hb hg inX11 hown hK hP 0 xgHouse rfl 0 (by decide) (hg _ w715) (fun _ h9 => h9) rfl dX11_named_25 ?_
    refine va_getN (D := D) (ci := 9) (v := .long (L8 6 11)) (fs := (xfTape ad V7 L8 Z)) (C := RX9) (T := TX9) (N := 12) hx hb hg inX9 hown hK hP 6 xgTape rfl 11 (by decide) (hnw.use 267 n267 rfl) (fun _ h9 => h9) rfl dX11_named_28 ?_
    refine lv_lstore_n (lv' := [(3, .long (L8 6 11)), (2, .int 0), (0, .ref (ad 0)), (1, .int p0)]) hx hb dX11_named_31 rfl hl (by decide) rfl (fun ls hl => ?_)
    refine lv_aload_n hx hb dX11_named_32 rfl (lv_at hl 2 rfl) ?_
    refine va_get (D := D) (ci := 11) (v := .ref (ad 6)) (fs := (xfHouse ad V7 L8 Z)) (C := RX11) (T := TX11) (N := 10) hx hb hg inX11 hown hK hP 0 xgHouse rfl 0 (by decide) (hg _ w715) (fun _ h9 => h9) rfl dX11_named_33 ?_
    refine gA_void (gA_runV (As := []) (rest := []) (ci := 9) (q0 := 6) hx hb hml hown hg hP hD hK hS hA hnw hgk (x_next2 l D ks H.size ad kk V7 L8 Z  hMV7 (show (V7 6 8).toInt ≤ (V7 6 7).toInt from by first | exact om_f4906d00fa52 t5 | first | omega | ((try (have i_bp1 := Imp.go bp1 (by omega))); omega))) w1052 w852 w853 w157 w854 rfl xgTape hdV_yX9_next ⟨Nat.le_of_ble_eq_true rfl, Nat.le_of_ble_eq_true rfl⟩ rfl hl.1 rfl (Nat.le_of_ble_eq_true rfl) dX11_named_36 ⟨Nat.le_of_ble_eq_true rfl, Nat.le_of_ble_eq_true rfl⟩) hP hD hK hS hA (fun u14 H locs w15 hP hD hK hS => ?_)
    obtain ⟨V18, L19⟩ := u14
    obtain ⟨hMV18, ajV18, axL19, t16, t17⟩ := w15
    have alL19 : agL [6, 14] L L19 := agL.tr alL8 axL19 (by decide)
    replace hP : va_P D vwCl (xw ad kk V18 L19 Z) H := hP
    replace hD : va_D A (xw ad kk V18 L19 Z) := hD
    replace hMV18 : rgd bX V18 := hMV18
    replace ajV18 : agr [(6, 8), (6, 9), (6, 10)] [] V7 V18 := ajV18
    have agV18 : agr [(6, 5), (6, 6), (6, 7), (6, 8), (6, 9), (6, 10)] [12, 13, 14] V V18 := agV7.tr ajV18 (by decide) (by decide)
    replace t16 : (V18 6 8).toInt ≤ (V18 6 7).toInt := t16
    replace t17 : CUR V18 L19 (Int32.toNatClampNeg (V7 6 8)) := t17
    have r20 : 0 ≤ ((V18 6 8)).toInt ∧ ((V18 6 8)).toInt ≤ 4000 := hMV18 6 8
    have pq21 : (V18 6 7).toInt = ((V7 6 7)).toInt := congrArg Int32.toInt (ajV18 6 7 rfl)
    have k14 : (tkOf V7 L8).1 0 = 3 → (V18 6 9).toInt = (tkOf V7 L8).1 1 := fun h9 => CTE.k1 ct4 t17 (by rw [(funext (fun q => ajV18 12 q rfl) : V18 12 = V7 12)] : V18 12 = V7 12) h9
    refine lv_aload_n hx hb dX11_named_39 rfl (lv_at hl 2 rfl) ?_
    refine va_get (D := D) (ci := 11) (v := .ref (ad 6)) (fs := (xfHouse ad V18 L19 Z)) (C := RX11) (T := TX11) (N := 10) hx hb hg inX11 hown hK hP 0 xgHouse rfl 0 (by decide) (hg _ w715) (fun _ h9 => h9) rfl dX11_named_40 ?_
    refine va_getN (D := D) (ci := 9) (v := .int (V18 6 9)) (fs := (xfTape ad V18 L19 Z)) (C := RX9) (T := TX9) (N := 12) hx hb hg inX9 hown hK hP 6 xgTape rfl 9 (by decide) (hnw.use 263 n263 rfl) (fun _ h9 => h9) rfl dX11_named_43 ?_
    refine lv_if_ne (tgt := 53) hx hb dX11_named_46 (by decide) (fun c22 => ?_) (fun c22 => ?_)
    · skip
      have f23 : ((V18 6 9)).toInt ≠ 0 := b_neq rfl (by decide) c22
      refine lv_iconst (v := 0) hx hb dX11_named_53 (by decide) ?_
      refine lv_istore (lv' := [(5, .int 0), (3, .long (L8 6 11)), (2, .int 0), (0, .ref (ad 0)), (1, .int p0)]) hx hb dX11_named_54 hl (by decide) rfl (fun ls hl => ?_)
      refine lv_aload_n hx hb dX11_named_56 rfl (lv_at hl 3 rfl) ?_
      refine va_get (D := D) (ci := 11) (v := .ref (ad 6)) (fs := (xfHouse ad V18 L19 Z)) (C := RX11) (T := TX11) (N := 10) hx hb hg inX11 hown hK hP 0 xgHouse rfl 0 (by decide) (hg _ w715) (fun _ h9 => h9) rfl dX11_named_57 ?_
      refine gA_void (gA_runV (As := []) (rest := []) (ci := 9) (q0 := 6) hx hb hml hown hg hP hD hK hS hA hnw hgk (x_empty l D ks H.size ad kk V18 L19 Z  hMV18 ) w1019 w1020 w1021 w157 w1022 rfl xgTape hdV_yX9_empty ⟨Nat.le_of_ble_eq_true rfl, Nat.le_of_ble_eq_true rfl⟩ rfl hl.1 rfl (Nat.le_of_ble_eq_true rfl) dX11_named_60 ⟨Nat.le_of_ble_eq_true rfl, Nat.le_of_ble_eq_true rfl⟩) hP hD hK hS hA (fun u25 H locs w26 hP hD hK hS => ?_)
      obtain ⟨V28, L29⟩ := u25
      obtain ⟨hMV28, ajV28, axL29, t27⟩ := w26
      have axL29 : L19 = L29 := Eq.symm axL29
      subst axL29
      replace hP : va_P D vwCl (xw ad kk V28 L19 Z) H := hP
      replace hD : va_D A (xw ad kk V28 L19 Z) := hD
      replace hMV28 : rgd bX V28 := hMV28
      replace ajV28 : agr [(6, 5)] [] V18 V28 := ajV28
      have agV28 : agr [(6, 5), (6, 6), (6, 7), (6, 8), (6, 9), (6, 10)] [12, 13, 14] V V28 := agV18.tr ajV28 (by decide) (by decide)
      replace t27 : (V28 6 5).toInt = 0 := t27
      have r30 : 0 ≤ ((V28 6 5)).toInt ∧ ((V28 6 5)).toInt ≤ 4000 := hMV28 6 5
      refine lv_iload_n hx hb dX11_named_63 rfl (lv_at hl 2 rfl) ?_
      refine lv_if_eq (tgt := 84) hx hb dX11_named_64 (by decide) (fun _ => ?_) (fun q => absurd (by decide) q)
      refine lv_iconst (v := (-1)) hx hb dX11_named_84 (by decide) ?_
      have r31 : Int32.toInt (-1) = (-1) := by decide
      exact W.iret (v := (-1)) hx hb hr (fun t ht hW => ⟨⟨(-1), (V28, L19), rfl, ⟨hMV28, agV28, alL19, ⟨V7, L8, CTE.x ct4 rfl rfl rfl, (hMV7 6 7).1, fun s9 t9 => (by rw [nmF_n (fun q9 => by have q1 := q9.1; have q2 := k14 q9.1; have q3 := q9.2.1; omega)]; decide)⟩⟩, by rw [ht]; exact hP, va_K.moved hW.alike hK, hD⟩, hS.F ht⟩) hS.2.2 dX11_named_85
    · skip
      have f32 : ((V18 6 9)).toInt = 0 := b_eq rfl (by decide) c22
      refine lv_iconst (v := 1) hx hb dX11_named_49 (by decide) ?_
      refine lv_goto (tgt := 54) hx hb dX11_named_50 (by decide) ?_
      refine lv_istore (lv' := [(5, .int 1), (3, .long (L8 6 11)), (2, .int 0), (0, .ref (ad 0)), (1, .int p0)]) hx hb dX11_named_54 hl (by decide) rfl (fun ls hl => ?_)
      refine lv_aload_n hx hb dX11_named_56 rfl (lv_at hl 3 rfl) ?_
      refine va_get (D := D) (ci := 11) (v := .ref (ad 6)) (fs := (xfHouse ad V18 L19 Z)) (C := RX11) (T := TX11) (N := 10) hx hb hg inX11 hown hK hP 0 xgHouse rfl 0 (by decide) (hg _ w715) (fun _ h9 => h9) rfl dX11_named_57 ?_
      refine gA_void (gA_runV (As := []) (rest := []) (ci := 9) (q0 := 6) hx hb hml hown hg hP hD hK hS hA hnw hgk (x_empty l D ks H.size ad kk V18 L19 Z  hMV18 ) w1019 w1020 w1021 w157 w1022 rfl xgTape hdV_yX9_empty ⟨Nat.le_of_ble_eq_true rfl, Nat.le_of_ble_eq_true rfl⟩ rfl hl.1 rfl (Nat.le_of_ble_eq_true rfl) dX11_named_60 ⟨Nat.le_of_ble_eq_true rfl, Nat.le_of_ble_eq_true rfl⟩) hP hD hK hS hA (fun u34 H locs w35 hP hD hK hS => ?_)
      obtain ⟨V37, L38⟩ := u34
      obtain ⟨hMV37, ajV37, axL38, t36⟩ := w35
      have axL38 : L19 = L38 := Eq.symm axL38
      subst axL38
      replace hP : va_P D vwCl (xw ad kk V37 L19 Z) H := hP
      replace hD : va_D A (xw ad kk V37 L19 Z) := hD
      replace hMV37 : rgd bX V37 := hMV37
      replace ajV37 : agr [(6, 5)] [] V18 V37 := ajV37
      have agV37 : agr [(6, 5), (6, 6), (6, 7), (6, 8), (6, 9), (6, 10)] [12, 13, 14] V V37 := agV18.tr ajV37 (by decide) (by decide)
      replace t36 : (V37 6 5).toInt = 0 := t36
      have r39 : 0 ≤ ((V37 6 5)).toInt ∧ ((V37 6 5)).toInt ≤ 4000 := hMV37 6 5
      refine lv_iload_n hx hb dX11_named_63 rfl (lv_at hl 2 rfl) ?_
      refine lv_if_eq (tgt := 84) hx hb dX11_named_64 (by decide) (fun _ => ?_) (fun q => absurd (by decide) q)
      refine lv_iconst (v := (-1)) hx hb dX11_named_84 (by decide) ?_
      have r40 : Int32.toInt (-1) = (-1) := by decide
      exact W.iret (v := (-1)) hx hb hr (fun t ht hW => ⟨⟨(-1), (V37, L19), rfl, ⟨hMV37, agV37, alL19, ⟨V7, L8, CTE.x ct4 rfl rfl rfl, (hMV7 6 7).1, fun s9 t9 => (by rw [nmF_n (fun q9 => by have q1 := q9.1; have q2 := k14 q9.1; have q3 := q9.2.1; omega)]; decide)⟩⟩, by rw [ht]; exact hP, va_K.moved hW.alike hK, hD⟩, hS.F ht⟩) hS.2.2 dX11_named_85
  · skip
    have f41 : ((V7 6 9)).toInt = 3 := b_eq rfl (by decide) c11
    refine lv_iconst (v := 1) hx hb dX11_named_18 (by decide) ?_
    refine lv_goto (tgt := 23) hx hb dX11_named_19 (by decide) ?_
    refine lv_istore_n (lv' := [(2, .int 1), (0, .ref (ad 0)), (1, .int p0)]) hx hb dX11_named_23 rfl hl (by decide) rfl (fun ls hl => ?_)
    refine lv_aload_n hx hb dX11_named_24 rfl (lv_at hl 1 rfl) ?_
    refine va_get (D := D) (ci := 11) (v := .ref (ad 6)) (fs := (xfHouse ad V7 L8 Z)) (C := RX11) (T := TX11) (N := 10) hx hb hg inX11 hown hK hP 0 xgHouse rfl 0 (by decide) (hg _ w715) (fun _ h9 => h9) rfl dX11_named_25 ?_
    refine va_getN (D := D) (ci := 9) (v := .long (L8 6 11)) (fs := (xfTape ad V7 L8 Z)) (C := RX9) (T := TX9) (N := 12) hx hb hg inX9 hown hK hP 6 xgTape rfl 11 (by decide) (hnw.use 267 n267 rfl) (fun _ h9 => h9) rfl dX11_named_28 ?_
    refine lv_lstore_n (lv' := [(3, .long (L8 6 11)), (2, .int 1), (0, .ref (ad 0)), (1, .int p0)]) hx hb dX11_named_31 rfl hl (by decide) rfl (fun ls hl => ?_)
    refine lv_aload_n hx hb dX11_named_32 rfl (lv_at hl 2 rfl) ?_
    refine va_get (D := D) (ci := 11) (v := .ref (ad 6)) (fs := (xfHouse ad V7 L8 Z)) (C := RX11) (T := TX11) (N := 10) hx hb hg inX11 hown hK hP 0 xgHouse rfl 0 (by decide) (hg _ w715) (fun _ h9 => h9) rfl dX11_named_33 ?_
    refine gA_void (gA_runV (As := []) (rest := []) (ci := 9) (q0 := 6) hx hb hml hown hg hP hD hK hS hA hnw hgk (x_next2 l D ks H.size ad kk V7 L8 Z  hMV7 (show (V7 6 8).toInt ≤ (V7 6 7).toInt from by first | exact om_f4906d00fa52 t5 | first | omega | ((try (have i_bp1 := Imp.go bp1 (by omega))); omega))) w1052 w852 w853 w157 w854 rfl xgTape hdV_yX9_next ⟨Nat.le_of_ble_eq_true rfl, Nat.le_of_ble_eq_true rfl⟩ rfl hl.1 rfl (Nat.le_of_ble_eq_true rfl) dX11_named_36 ⟨Nat.le_of_ble_eq_true rfl, Nat.le_of_ble_eq_true rfl⟩) hP hD hK hS hA (fun u43 H locs w44 hP hD hK hS => ?_)
    obtain ⟨V47, L48⟩ := u43
    obtain ⟨hMV47, ajV47, axL48, t45, t46⟩ := w44
    have alL48 : agL [6, 14] L L48 := agL.tr alL8 axL48 (by decide)
    replace hP : va_P D vwCl (xw ad kk V47 L48 Z) H := hP
    replace hD : va_D A (xw ad kk V47 L48 Z) := hD
    replace hMV47 : rgd bX V47 := hMV47
    replace ajV47 : agr [(6, 8), (6, 9), (6, 10)] [] V7 V47 := ajV47
    have agV47 : agr [(6, 5), (6, 6), (6, 7), (6, 8), (6, 9), (6, 10)] [12, 13, 14] V V47 := agV7.tr ajV47 (by decide) (by decide)
    replace t45 : (V47 6 8).toInt ≤ (V47 6 7).toInt := t45
    replace t46 : CUR V47 L48 (Int32.toNatClampNeg (V7 6 8)) := t46
    have r49 : 0 ≤ ((V47 6 8)).toInt ∧ ((V47 6 8)).toInt ≤ 4000 := hMV47 6 8
    have pq50 : (V47 6 7).toInt = ((V7 6 7)).toInt := congrArg Int32.toInt (ajV47 6 7 rfl)
    have k14 : (tkOf V7 L8).1 0 = 3 → (V47 6 9).toInt = (tkOf V7 L8).1 1 := fun h9 => CTE.k1 ct4 t46 (by rw [(funext (fun q => ajV47 12 q rfl) : V47 12 = V7 12)] : V47 12 = V7 12) h9
    refine lv_aload_n hx hb dX11_named_39 rfl (lv_at hl 2 rfl) ?_
    refine va_get (D := D) (ci := 11) (v := .ref (ad 6)) (fs := (xfHouse ad V47 L48 Z)) (C := RX11) (T := TX11) (N := 10) hx hb hg inX11 hown hK hP 0 xgHouse rfl 0 (by decide) (hg _ w715) (fun _ h9 => h9) rfl dX11_named_40 ?_
    refine va_getN (D := D) (ci := 9) (v := .int (V47 6 9)) (fs := (xfTape ad V47 L48 Z)) (C := RX9) (T := TX9) (N := 12) hx hb hg inX9 hown hK hP 6 xgTape rfl 9 (by decide) (hnw.use 263 n263 rfl) (fun _ h9 => h9) rfl dX11_named_43 ?_
    refine lv_if_ne (tgt := 53) hx hb dX11_named_46 (by decide) (fun c51 => ?_) (fun c51 => ?_)
    · skip
      have f52 : ((V47 6 9)).toInt ≠ 0 := b_neq rfl (by decide) c51
      refine lv_iconst (v := 0) hx hb dX11_named_53 (by decide) ?_
      refine lv_istore (lv' := [(5, .int 0), (3, .long (L8 6 11)), (2, .int 1), (0, .ref (ad 0)), (1, .int p0)]) hx hb dX11_named_54 hl (by decide) rfl (fun ls hl => ?_)
      refine lv_aload_n hx hb dX11_named_56 rfl (lv_at hl 3 rfl) ?_
      refine va_get (D := D) (ci := 11) (v := .ref (ad 6)) (fs := (xfHouse ad V47 L48 Z)) (C := RX11) (T := TX11) (N := 10) hx hb hg inX11 hown hK hP 0 xgHouse rfl 0 (by decide) (hg _ w715) (fun _ h9 => h9) rfl dX11_named_57 ?_
      refine gA_void (gA_runV (As := []) (rest := []) (ci := 9) (q0 := 6) hx hb hml hown hg hP hD hK hS hA hnw hgk (x_empty l D ks H.size ad kk V47 L48 Z  hMV47 ) w1019 w1020 w1021 w157 w1022 rfl xgTape hdV_yX9_empty ⟨Nat.le_of_ble_eq_true rfl, Nat.le_of_ble_eq_true rfl⟩ rfl hl.1 rfl (Nat.le_of_ble_eq_true rfl) dX11_named_60 ⟨Nat.le_of_ble_eq_true rfl, Nat.le_of_ble_eq_true rfl⟩) hP hD hK hS hA (fun u54 H locs w55 hP hD hK hS => ?_)
      obtain ⟨V57, L58⟩ := u54
      obtain ⟨hMV57, ajV57, axL58, t56⟩ := w55
      have axL58 : L48 = L58 := Eq.symm axL58
      subst axL58
      replace hP : va_P D vwCl (xw ad kk V57 L48 Z) H := hP
      replace hD : va_D A (xw ad kk V57 L48 Z) := hD
      replace hMV57 : rgd bX V57 := hMV57
      replace ajV57 : agr [(6, 5)] [] V47 V57 := ajV57
      have agV57 : agr [(6, 5), (6, 6), (6, 7), (6, 8), (6, 9), (6, 10)] [12, 13, 14] V V57 := agV47.tr ajV57 (by decide) (by decide)
      replace t56 : (V57 6 5).toInt = 0 := t56
      have r59 : 0 ≤ ((V57 6 5)).toInt ∧ ((V57 6 5)).toInt ≤ 4000 := hMV57 6 5
      refine lv_iload_n hx hb dX11_named_63 rfl (lv_at hl 2 rfl) ?_
      refine lv_if_eq (tgt := 84) hx hb dX11_named_64 (by decide) (fun q => absurd q (by decide)) (fun _ => ?_)
      refine lv_iload hx hb dX11_named_67 (lv_at hl 0 rfl) ?_
      refine lv_if_eq (tgt := 84) hx hb dX11_named_69 (by decide) (fun _ => ?_) (fun q => absurd (by decide) q)
      refine lv_iconst (v := (-1)) hx hb dX11_named_84 (by decide) ?_
      have r60 : Int32.toInt (-1) = (-1) := by decide
      exact W.iret (v := (-1)) hx hb hr (fun t ht hW => ⟨⟨(-1), (V57, L48), rfl, ⟨hMV57, agV57, alL48, ⟨V7, L8, CTE.x ct4 rfl rfl rfl, (hMV7 6 7).1, fun s9 t9 => (by rw [nmF_n (fun q9 => by have q1 := q9.1; have q2 := k14 q9.1; have q3 := q9.2.1; omega)]; decide)⟩⟩, by rw [ht]; exact hP, va_K.moved hW.alike hK, hD⟩, hS.F ht⟩) hS.2.2 dX11_named_85
    · skip
      have f61 : ((V47 6 9)).toInt = 0 := b_eq rfl (by decide) c51
      refine lv_iconst (v := 1) hx hb dX11_named_49 (by decide) ?_
      refine lv_goto (tgt := 54) hx hb dX11_named_50 (by decide) ?_
      refine lv_istore (lv' := [(5, .int 1), (3, .long (L8 6 11)), (2, .int 1), (0, .ref (ad 0)), (1, .int p0)]) hx hb dX11_named_54 hl (by decide) rfl (fun ls hl => ?_)
      refine lv_aload_n hx hb dX11_named_56 rfl (lv_at hl 3 rfl) ?_
      refine va_get (D := D) (ci := 11) (v := .ref (ad 6)) (fs := (xfHouse ad V47 L48 Z)) (C := RX11) (T := TX11) (N := 10) hx hb hg inX11 hown hK hP 0 xgHouse rfl 0 (by decide) (hg _ w715) (fun _ h9 => h9) rfl dX11_named_57 ?_
      refine gA_void (gA_runV (As := []) (rest := []) (ci := 9) (q0 := 6) hx hb hml hown hg hP hD hK hS hA hnw hgk (x_empty l D ks H.size ad kk V47 L48 Z  hMV47 ) w1019 w1020 w1021 w157 w1022 rfl xgTape hdV_yX9_empty ⟨Nat.le_of_ble_eq_true rfl, Nat.le_of_ble_eq_true rfl⟩ rfl hl.1 rfl (Nat.le_of_ble_eq_true rfl) dX11_named_60 ⟨Nat.le_of_ble_eq_true rfl, Nat.le_of_ble_eq_true rfl⟩) hP hD hK hS hA (fun u63 H locs w64 hP hD hK hS => ?_)
      obtain ⟨V66, L67⟩ := u63
      obtain ⟨hMV66, ajV66, axL67, t65⟩ := w64
      have axL67 : L48 = L67 := Eq.symm axL67
      subst axL67
      replace hP : va_P D vwCl (xw ad kk V66 L48 Z) H := hP
      replace hD : va_D A (xw ad kk V66 L48 Z) := hD
      replace hMV66 : rgd bX V66 := hMV66
      replace ajV66 : agr [(6, 5)] [] V47 V66 := ajV66
      have agV66 : agr [(6, 5), (6, 6), (6, 7), (6, 8), (6, 9), (6, 10)] [12, 13, 14] V V66 := agV47.tr ajV66 (by decide) (by decide)
      replace t65 : (V66 6 5).toInt = 0 := t65
      have r68 : 0 ≤ ((V66 6 5)).toInt ∧ ((V66 6 5)).toInt ≤ 4000 := hMV66 6 5
      refine lv_iload_n hx hb dX11_named_63 rfl (lv_at hl 2 rfl) ?_
      refine lv_if_eq (tgt := 84) hx hb dX11_named_64 (by decide) (fun q => absurd q (by decide)) (fun _ => ?_)
      refine lv_iload hx hb dX11_named_67 (lv_at hl 0 rfl) ?_
      refine lv_if_eq (tgt := 84) hx hb dX11_named_69 (by decide) (fun q => absurd q (by decide)) (fun _ => ?_)
      refine lv_aload_n hx hb dX11_named_72 rfl (lv_at hl 3 rfl) ?_
      refine va_get (D := D) (ci := 11) (v := .ref (ad (38 + Int32.toNatClampNeg (V66 0 6)))) (fs := (xfHouse ad V66 L48 Z)) (C := RX11) (T := TX11) (N := 10) hx hb hg inX11 hown hK hP 0 xgHouse rfl 6 (by decide) (hg _ w721) (fun _ h9 => h9) rfl dX11_named_73 ?_
      have pq69 : (V66 0 6).toInt = ((V 0 6)).toInt := congrArg Int32.toInt ((ajV66 0 6 rfl).trans ((ajV47 0 6 rfl).trans (ajV7 0 6 rfl)))
      refine g_topv (v := .ref (ad (38 + b))) (rfP (by first | omega | ((try (have i_bp1 := Imp.go bp1 (by omega))); omega))) ?_
      refine lv_lload_n hx hb dX11_named_76 rfl (lv_at hl 1 rfl) ?_
      refine lv_iload_n hx hb dX11_named_77 rfl (lv_at hl 4 rfl) ?_
      refine gA_int (gA_runV (As := [.long (L8 6 11), .int p0]) (rest := []) (ci := 0) (q0 := (38 + b)) hx hb hml hown hg hP hD hK hS hA hnw hgk (x_numberOf4 l D ks H.size ad kk V66 L48 Z (L8 6 11) p0 (b) hMV66 (show b < 2 from by first | exact om_f940a4667dd6 hb2 | first | omega | ((try (have i_bp1 := Imp.go bp1 (by omega))); omega))) w1053 w1054 w1055 w167 w1056 rfl (xgBook hb2) hdV_yX0_numberOf ⟨Nat.le_of_ble_eq_true rfl, Nat.le_of_ble_eq_true rfl⟩ rfl hl.1 rfl (Nat.le_of_ble_eq_true rfl) dX11_named_78 ⟨Nat.le_of_ble_eq_true rfl, Nat.le_of_ble_eq_true rfl⟩) hP hD hK hS hA (fun z70 u71 H locs w72 hP hD hK hS => ?_)
      have t73 := w72
      replace t73 : (∀ j : Nat, j < 5 → p0.toInt = (j : Int) → NF (fun i => L48 44 (24 * (5 * b + j) + i)) (V66 43 (5 * b + j)).toInt (L8 6 11) z70.toInt) ∧ (¬ (0 ≤ p0.toInt ∧ p0.toInt < 5) → z70.toInt = -1) := t73
      refine lv_goto (tgt := 85) hx hb dX11_named_81 (by decide) ?_
      have no9 := t73
      have kk3 : (tkOf V7 L8).1 0 = 3 := by omega
      have kk1 : (tkOf V7 L8).1 1 = 0 := by have h9 := k14 kk3; omega
      exact W.iret (v := z70) hx hb hr (fun t ht hW => ⟨⟨z70, (V66, L48), rfl, ⟨hMV66, agV66, alL48, ⟨V7, L8, CTE.x ct4 rfl rfl rfl, (hMV7 6 7).1, fun s9 t9 => (by by_cases c9 : 0 ≤ p0.toInt ∧ p0.toInt < 5; (have ej : p0.toInt = ((p0.toInt.toNat : Nat) : Int) := (by omega); rw [ej]; exact NF.nm (no9.1 p0.toInt.toNat (by omega) ej) (TBc.mv t9 (by rw [(funext (fun q => ajV66 43 q rfl) : V66 43 = V47 43), (funext (fun q => ajV47 43 q rfl) : V47 43 = V7 43), (funext (fun q => ajV7 43 q rfl) : V7 43 = V 43)] : V66 43 = V 43) (funext fun q9 => alL48 44 q9 rfl)) (by omega) kk3 kk1 v04.symm); (rw [nmF_n (fun q9 => c9 q9.2.2)]; exact no9.2 c9))⟩⟩, by rw [ht]; exact hP, va_K.moved hW.alike hK, hD⟩, hS.F ht⟩) hS.2.2 dX11_named_85
abbrev r_s_named4 : Room := { frames := 3, cells := 0, slots := 0, locals := 66 }
abbrev q_s_named4 (D : va_G) (ks : KS) (ad : Nat → Nat) (kk : Nat → ClassId) (V : Vf) (L : Lf) (p0 : Int32) (bq : Nat) (gn : Nat) (gT : Tk) (gs : St) (A : Nat → Prop) : Array Value → State → Outcome → State → Prop := va_Qi (fun (r : Int32) (u : Vf × Lf) => rgd bM u.1 ∧ agr [(0, 0), (0, 2), (0, 3), (0, 7), (0, 8)] [4, 5, 6] V u.1 ∧ agL [4, 5, 6] L u.2 ∧ (r.toInt = nmF gT gs p0.toInt)) (fun u t => gq D A (mw ad kk ks.1 u.1 u.2) (mty kk) t) A
set_option maxHeartbeats 4000000 in
set_option maxRecDepth 100000 in
theorem s_named4 (l : Launch) (D : va_G) (ks : KS) (sz : Nat) (ad : Nat → Nat) (kk : Nat → ClassId) (V : Vf) (L : Lf) (p0 : Int32) (bq : Nat) (gn : Nat) (gT : Tk) (gs : St) (hMV : rgd bM V) (zq1 : (bq : Int) = (V 0 11).toInt) (hT : ∀ (W9 : Vf) (M9 : Lf), RTE V W9 M9 → (∀ k : Nat, k < 28 → M9 10 k = L 10 k) → TkM W9 M9 gT gn) (tb4 : TBm V L bq gs (gs.2.1 2)) (nk : NKs gs)  : Met l yX12_named_ (Cond.code yX12_named_ cX12_named_ 2 (some .int) :: GW) r_s_named4 (va_Pc [.ref (ad 0), .int p0] (gp D ks (mw ad kk ks.1 V L) (mty kk) sz)) (q_s_named4 D ks ad kk V L p0 bq gn gT gs (va_A (mw ad kk ks.1 V L) sz)) 0 0 (va_A (mw ad kk ks.1 V L) sz) := by
  refine g_met (q_s_named4 D ks ad kk V L p0 bq gn gT gs) (by decide) (Nat.le_of_ble_eq_true rfl) ?_
  intro p e s m below meth c A ls H locs hx hb hr hml hown hg hlocks hin hnw hgk hP hK hD hS hA hl
  replace hown : s.vm.findClass RX12 = some m.cls := hown
  replace hl : lv_has ls 2 [(0, .ref (ad 0)), (1, .int p0)] := hl
  replace hP : va_P D vwCl (mw ad kk ks.1 V L) H := hP
  replace hD : va_D A (mw ad kk ks.1 V L) := hD
  replace hK : va_K D vwCl (mty kk) s := hK
  have agV : agr [(0, 0), (0, 2), (0, 3), (0, 7), (0, 8)] [4, 5, 6] V V := agr.rf
  have alL : agL [4, 5, 6] L L := agL.rf
  have rf_p0 := i_full p0
  have r1 : 0 ≤ ((V 0 11)).toInt ∧ ((V 0 11)).toInt ≤ 1 := hMV 0 11
  refine lv_aload_n hx hb dX12_named__0 rfl (lv_at hl 0 rfl) ?_
  refine lv_iconst (v := 0) hx hb dX12_named__1 (by decide) ?_
  refine va_put (D := D) (ci := 12) (v := .int 0) (ty := tyX12 0) (C := RX12) (T := TX12) (N := 100) hx hb hg inX12 tyX12 tyX12_ok nmX12 hown hK hP hD hS 0 rfl rfl 0 (by decide) (hg _ w1706) (fun _ h9 => h9) rfl (tyX12_ok 0 (by decide)) rfl rfl (Nat.le_of_ble_eq_true rfl) dX12_named__2 (fun H locs hP hD hS => ?_)
  obtain ⟨V2, hV2⟩ : ∃ z, z = up2 V 0 0 0 := ⟨_, rfl⟩
  have hP : va_P D vwCl (mw ad kk ks.1 V2 L) H := by rw [hV2]; exact hP
  have hD : va_D A (mw ad kk ks.1 V2 L) := by rw [hV2]; exact hD
  have hMV2 : rgd bM V2 := hMV.put hV2 (i_full _)
  have agV2 : agr [(0, 0), (0, 2), (0, 3), (0, 7), (0, 8)] [4, 5, 6] V V2 := agV.up hV2 rfl
  refine lv_aload_n hx hb dX12_named__5 rfl (lv_at hl 0 rfl) ?_
  refine gA_void (gA_runV (As := []) (rest := []) (ci := 12) (q0 := 0) hx hb hml hown hg hP hD hK hS hA hnw hgk (s_cutAll2 l D ks H.size ad kk V2 L  hMV2 ) w2011 w2013 w82 w172 w2014 rfl rfl hdV_yX12_cutAll ⟨Nat.le_of_ble_eq_true rfl, Nat.le_of_ble_eq_true rfl⟩ rfl hl.1 rfl (Nat.le_of_ble_eq_true rfl) dX12_named__6 ⟨Nat.le_of_ble_eq_true rfl, Nat.le_of_ble_eq_true rfl⟩) hP hD hK hS hA (fun u4 H locs w5 hP hD hK hS => ?_)
  obtain ⟨V10, L11⟩ := u4
  obtain ⟨hMV10, ajV10, axL11, t6, t7, t8, t9⟩ := w5
  have alL11 : agL [4, 5, 6] L L11 := agL.tr alL axL11 (by decide)
  replace hP : va_P D vwCl (mw ad kk ks.1 V10 L11) H := hP
  replace hD : va_D A (mw ad kk ks.1 V10 L11) := hD
  replace hMV10 : rgd bM V10 := hMV10
  replace ajV10 : agr [(0, 2), (0, 3), (0, 7), (0, 8)] [4, 5, 6] V2 V10 := ajV10
  have agV10 : agr [(0, 0), (0, 2), (0, 3), (0, 7), (0, 8)] [4, 5, 6] V V10 := agV2.tr ajV10 (by decide) (by decide)
  replace t6 : (V10 0 8).toInt = 0 := t6
  replace t7 : (V10 0 7).toInt = 0 := t7
  replace t8 : (V10 0 2).toInt = 0 := t8
  replace t9 : RTE V2 V10 L11 := t9
  have r12 : 0 ≤ ((V10 0 8)).toInt ∧ ((V10 0 8)).toInt ≤ 70000 := hMV10 0 8
  have r13 : 0 ≤ ((V10 0 2)).toInt ∧ ((V10 0 2)).toInt ≤ 4000 := hMV10 0 2
  have tk0 : TkM V10 L11 gT gn := hT _ _ (RTE.mv t9 (by rw [(up2_fo hV2 (by decide) : V2 1 = V 1)] : V2 1 = V 1) (show V2 0 2 = V 0 2 from (up2_k hV2 (by decide)))) (fun k hk => alL11 10 k rfl)
  refine lv_aload_n hx hb dX12_named__9 rfl (lv_at hl 0 rfl) ?_
  refine va_get (D := D) (ci := 12) (v := .ref (ad 4)) (C := RX12) (T := TX12) (N := 100) hx hb hg inX12 hown hK hP 0 rfl rfl 4 (by decide) (hg _ w1710) (fun _ h9 => h9) rfl dX12_named__10 ?_
  refine lv_iconst (v := 0) hx hb dX12_named__13 (by decide) ?_
  refine va_iald (D := D) (i := 0) hx hb hK hP 2 1 rfl rfl (i_in (a := 0) (by decide) (by decide)) dX12_named__14 ?_
  refine g_top (v := V10 4 0) (congrArg (V10 4) (by decide)) ?_
  refine lv_iconst (v := 1) hx hb dX12_named__15 (by decide) ?_
  refine lv_icmp_ne (tgt := 28) hx hb dX12_named__16 (by decide) (fun c14 => ?_) (fun c14 => ?_)
  · skip
    have f15 : ((V10 4 0)).toInt ≠ 1 := b_neq rfl (by decide) c14
    refine lv_iconst (v := (-1)) hx hb dX12_named__28 (by decide) ?_
    have r16 : Int32.toInt (-1) = (-1) := by decide
    exact W.iret (v := (-1)) hx hb hr (fun t ht hW => ⟨⟨(-1), (V10, L11), rfl, ⟨hMV10, agV10, alL11, (by rw [nmF_n (fun q9 => TkM.nm0 tk0 (by omega) q9.1)]; decide)⟩, by rw [ht]; exact hP, va_K.moved hW.alike hK, hD⟩, hS.F ht⟩) hS.2.2 dX12_named__29
  · skip
    have f17 : ((V10 4 0)).toInt = 1 := b_eq rfl (by decide) c14
    refine lv_aload_n hx hb dX12_named__19 rfl (lv_at hl 0 rfl) ?_
    refine va_get (D := D) (ci := 12) (v := .ref (ad 4)) (C := RX12) (T := TX12) (N := 100) hx hb hg inX12 hown hK hP 0 rfl rfl 4 (by decide) (hg _ w1710) (fun _ h9 => h9) rfl dX12_named__20 ?_
    refine lv_iconst (v := 1) hx hb dX12_named__23 (by decide) ?_
    refine va_iald (D := D) (i := 1) hx hb hK hP 2 1 rfl rfl (i_in (a := 1) (by decide) (by decide)) dX12_named__24 ?_
    refine g_top (v := V10 4 1) (congrArg (V10 4) (by decide)) ?_
    refine lv_if_eq (tgt := 30) hx hb dX12_named__25 (by decide) (fun c18 => ?_) (fun c18 => ?_)
    · skip
      have f19 : ((V10 4 1)).toInt = 0 := b_eq rfl (by decide) c18
      refine lv_iload_n hx hb dX12_named__30 rfl (lv_at hl 1 rfl) ?_
      by_cases q20 : p0 = 0
      · refine g_top (v := 0) q20 ?_
        have fq20 : p0.toInt = 0 := b_eq rfl (by decide) q20
        refine lv_tableIn (x := 0) (off := 33) (tgt := 64) hx hb dX12_named__31 (by decide) (by decide) (by decide) (by decide) ?_
        refine lv_aload_n hx hb dX12_named__64 rfl (lv_at hl 0 rfl) ?_
        refine lv_aload_n hx hb dX12_named__65 rfl (lv_at hl 0 rfl) ?_
        refine va_get (D := D) (ci := 12) (v := .ref (ad 14)) (C := RX12) (T := TX12) (N := 100) hx hb hg inX12 hown hK hP 0 rfl rfl 14 (by decide) (hg _ w1720) (fun _ h9 => h9) rfl dX12_named__66 ?_
        refine lv_bipush (v := 24) hx hb dX12_named__69 (by decide) ?_
        refine lv_aload_n hx hb dX12_named__71 rfl (lv_at hl 0 rfl) ?_
        refine va_get (D := D) (ci := 12) (v := .int (V10 0 11)) (C := RX12) (T := TX12) (N := 100) hx hb hg inX12 hown hK hP 0 rfl rfl 11 (by decide) (hg _ w1717) (fun _ h9 => h9) rfl dX12_named__72 ?_
        refine g_top (v := (V 0 11)) ((ajV10 0 11 rfl).trans (up2_k hV2 (by decide))) ?_
        refine lv_imul hx hb dX12_named__75 ?_
        refine lv_topi (fun z21 ez21 => ?_)
        have hz21 : z21.toInt = 24 * ((V 0 11)).toInt := i_mul ez21 (by decide) rfl (by (first | exact om_3f8aba7b6ce1 r1.1 r1.2 | omega))
        refine lv_aload_n hx hb dX12_named__76 rfl (lv_at hl 0 rfl) ?_
        refine va_get (D := D) (ci := 12) (v := .ref (ad 13)) (C := RX12) (T := TX12) (N := 100) hx hb hg inX12 hown hK hP 0 rfl rfl 13 (by decide) (hg _ w1719) (fun _ h9 => h9) rfl dX12_named__77 ?_
        refine lv_aload_n hx hb dX12_named__80 rfl (lv_at hl 0 rfl) ?_
        refine va_get (D := D) (ci := 12) (v := .int (V10 0 11)) (C := RX12) (T := TX12) (N := 100) hx hb hg inX12 hown hK hP 0 rfl rfl 11 (by decide) (hg _ w1717) (fun _ h9 => h9) rfl dX12_named__81 ?_
        refine g_top (v := (V 0 11)) ((ajV10 0 11 rfl).trans (up2_k hV2 (by decide))) ?_
        refine va_iald (D := D) (i := (V 0 11)) hx hb hK hP 6 5 rfl rfl (i_in (a := ((V 0 11)).toInt) rfl (by (first | exact om_8367a84723c7 r1.1 r1.2 | omega))) dX12_named__84 ?_
        refine g_top (v := (V 13 (Int32.toNatClampNeg (V 0 11)))) ((ajV10 13 (Int32.toNatClampNeg (V 0 11)) rfl).trans (up2_o hV2 (by decide))) ?_
        have r22 : 0 ≤ ((V 13 (Int32.toNatClampNeg (V 0 11)))).toInt ∧ ((V 13 (Int32.toNatClampNeg (V 0 11)))).toInt ≤ 24 := hMV 13 (Int32.toNatClampNeg (V 0 11))
        refine lv_aload_n hx hb dX12_named__85 rfl (lv_at hl 0 rfl) ?_
        refine va_get (D := D) (ci := 12) (v := .ref (ad 6)) (C := RX12) (T := TX12) (N := 100) hx hb hg inX12 hown hK hP 0 rfl rfl 6 (by decide) (hg _ w1712) (fun _ h9 => h9) rfl dX12_named__86 ?_
        refine lv_iconst (v := 0) hx hb dX12_named__89 (by decide) ?_
        refine va_lald (D := D) (i := 0) hx hb hK hP 4 3 rfl rfl (i_in (a := 0) (by decide) (by decide)) dX12_named__90 ?_
        refine gA_int (gA_runV (As := [.ref (ad 14), .int z21, .int (V 13 (Int32.toNatClampNeg (V 0 11))), .long (L11 6 0)]) (rest := []) (ci := 12) (q0 := 0) hx hb hml hown hg hP hD hK hS hA hnw hgk (s_find2_typeName l D ks H.size ad kk V10 L11 z21 (V 13 (Int32.toNatClampNeg (V 0 11))) (L11 6 0) hMV10 (by (first | exact om_c44c09625d4d r1.1 r1.2 hz21 | omega)) (by (first | exact om_f82fee59341f r22.1 r22.2 | omega)) (show z21.toInt + ((V 13 (Int32.toNatClampNeg (V 0 11)))).toInt ≤ 48 from by (first | exact om_6f18d472129c r1.2 hz21 r22.2 | omega))) w2047 w2049 w89 w172 w2050 rfl rfl hdV_yX12_find ⟨Nat.le_of_ble_eq_true rfl, Nat.le_of_ble_eq_true rfl⟩ rfl hl.1 rfl (Nat.le_of_ble_eq_true rfl) dX12_named__91 ⟨Nat.le_of_ble_eq_true rfl, Nat.le_of_ble_eq_true rfl⟩) hP hD hK hS hA (fun z23 u24 H locs w25 hP hD hK hS => ?_)
        obtain ⟨rgz23, t26, t27⟩ := w25
        replace rgz23 : (-1) ≤ z23.toInt ∧ z23.toInt ≤ 47 := rgz23
        replace t26 : z23.toInt < ((V 13 (Int32.toNatClampNeg (V 0 11)))).toInt := t26
        replace t27 : LF (fun i => L11 14 (z21.toInt.toNat + i)) ((V 13 (Int32.toNatClampNeg (V 0 11)))).toInt ((L11 6 0)) z23.toInt := t27
        have pq29 : (V10 13 bq).toInt = ((V 13 bq)).toInt := congrArg Int32.toInt ((ajV10 13 bq rfl).trans (up2_o hV2 (by decide)))
        have r30 : 0 ≤ ((V 13 bq)).toInt ∧ ((V 13 bq)).toInt ≤ 24 := hMV 13 bq
        have kb9 : Int32.toNatClampNeg (V 0 11) = bq := by have h9 := i_clamp (x := V 0 11) rfl (by (first | exact om_eafa9039069c r1.1 | omega)); (first | exact om_7d9cc8d6a75e zq1 h9 | omega)
        have hb9 : (V 13 (Int32.toNatClampNeg (V 0 11))).toInt = (V 13 bq).toInt := by rw [kb9]
        have lf28 : LF (fun i => L 14 (24 * bq + i)) (V 13 bq).toInt (L11 6 0) z23.toInt := by have h9 := t27; rw [show z21.toInt.toNat = 24 * bq from by omega, show ((V 13 (Int32.toNatClampNeg (V 0 11)))).toInt = (V 13 bq).toInt from by omega, (funext fun q9 => alL11 14 q9 rfl : L11 14 = L 14)] at h9; exact h9
        exact W.iret (v := z23) hx hb hr (fun t ht hW => ⟨⟨z23, (V10, L11), rfl, ⟨hMV10, agV10, alL11, (by rw [show p0.toInt = ((0 : Nat) : Int) from by omega]; exact LF.nm lf28 tb4.1.1 tb4.1.2 (nk 0 (by decide)) (by decide) (TkM.nm2 tk0 (by (first | exact om_710535a98d88 f17 | omega)) (by (first | exact om_b66ba74381d5 f19 | omega))))⟩, by rw [ht]; exact hP, va_K.moved hW.alike hK, hD⟩, hS.F ht⟩) hS.2.2 dX12_named__94
      by_cases q31 : p0 = 1
      · refine g_top (v := 1) q31 ?_
        have fq31 : p0.toInt = 1 := b_eq rfl (by decide) q31
        refine lv_tableIn (x := 1) (off := 64) (tgt := 95) hx hb dX12_named__31 (by decide) (by decide) (by decide) (by decide) ?_
        refine lv_aload_n hx hb dX12_named__95 rfl (lv_at hl 0 rfl) ?_
        refine lv_aload_n hx hb dX12_named__96 rfl (lv_at hl 0 rfl) ?_
        refine va_get (D := D) (ci := 12) (v := .ref (ad 17)) (C := RX12) (T := TX12) (N := 100) hx hb hg inX12 hown hK hP 0 rfl rfl 17 (by decide) (hg _ w1723) (fun _ h9 => h9) rfl dX12_named__97 ?_
        refine lv_bipush (v := 12) hx hb dX12_named__100 (by decide) ?_
        refine lv_aload_n hx hb dX12_named__102 rfl (lv_at hl 0 rfl) ?_
        refine va_get (D := D) (ci := 12) (v := .int (V10 0 11)) (C := RX12) (T := TX12) (N := 100) hx hb hg inX12 hown hK hP 0 rfl rfl 11 (by decide) (hg _ w1717) (fun _ h9 => h9) rfl dX12_named__103 ?_
        refine g_top (v := (V 0 11)) ((ajV10 0 11 rfl).trans (up2_k hV2 (by decide))) ?_
        refine lv_imul hx hb dX12_named__106 ?_
        refine lv_topi (fun z32 ez32 => ?_)
        have hz32 : z32.toInt = 12 * ((V 0 11)).toInt := i_mul ez32 (by decide) rfl (by (first | exact om_630bd6ee60c3 r1.1 r1.2 | omega))
        refine lv_aload_n hx hb dX12_named__107 rfl (lv_at hl 0 rfl) ?_
        refine va_get (D := D) (ci := 12) (v := .ref (ad 16)) (C := RX12) (T := TX12) (N := 100) hx hb hg inX12 hown hK hP 0 rfl rfl 16 (by decide) (hg _ w1722) (fun _ h9 => h9) rfl dX12_named__108 ?_
        refine lv_aload_n hx hb dX12_named__111 rfl (lv_at hl 0 rfl) ?_
        refine va_get (D := D) (ci := 12) (v := .int (V10 0 11)) (C := RX12) (T := TX12) (N := 100) hx hb hg inX12 hown hK hP 0 rfl rfl 11 (by decide) (hg _ w1717) (fun _ h9 => h9) rfl dX12_named__112 ?_
        refine g_top (v := (V 0 11)) ((ajV10 0 11 rfl).trans (up2_k hV2 (by decide))) ?_
        refine va_iald (D := D) (i := (V 0 11)) hx hb hK hP 9 8 rfl rfl (i_in (a := ((V 0 11)).toInt) rfl (by (first | exact om_8367a84723c7 r1.1 r1.2 | omega))) dX12_named__115 ?_
        refine g_top (v := (V 16 (Int32.toNatClampNeg (V 0 11)))) ((ajV10 16 (Int32.toNatClampNeg (V 0 11)) rfl).trans (up2_o hV2 (by decide))) ?_
        have r33 : 0 ≤ ((V 16 (Int32.toNatClampNeg (V 0 11)))).toInt ∧ ((V 16 (Int32.toNatClampNeg (V 0 11)))).toInt ≤ 12 := hMV 16 (Int32.toNatClampNeg (V 0 11))
        refine lv_aload_n hx hb dX12_named__116 rfl (lv_at hl 0 rfl) ?_
        refine va_get (D := D) (ci := 12) (v := .ref (ad 6)) (C := RX12) (T := TX12) (N := 100) hx hb hg inX12 hown hK hP 0 rfl rfl 6 (by decide) (hg _ w1712) (fun _ h9 => h9) rfl dX12_named__117 ?_
        refine lv_iconst (v := 0) hx hb dX12_named__120 (by decide) ?_
        refine va_lald (D := D) (i := 0) hx hb hK hP 4 3 rfl rfl (i_in (a := 0) (by decide) (by decide)) dX12_named__121 ?_
        refine gA_int (gA_runV (As := [.ref (ad 17), .int z32, .int (V 16 (Int32.toNatClampNeg (V 0 11))), .long (L11 6 0)]) (rest := []) (ci := 12) (q0 := 0) hx hb hml hown hg hP hD hK hS hA hnw hgk (s_find2_settingName l D ks H.size ad kk V10 L11 z32 (V 16 (Int32.toNatClampNeg (V 0 11))) (L11 6 0) hMV10 (by (first | exact om_cbb4348e7513 r1.1 r1.2 hz32 | omega)) (by (first | exact om_f5a2411b9512 r33.1 r33.2 | omega)) (show z32.toInt + ((V 16 (Int32.toNatClampNeg (V 0 11)))).toInt ≤ 24 from by (first | exact om_789d02abd9c5 r1.2 hz32 r33.2 | omega))) w2047 w2049 w89 w172 w2050 rfl rfl hdV_yX12_find ⟨Nat.le_of_ble_eq_true rfl, Nat.le_of_ble_eq_true rfl⟩ rfl hl.1 rfl (Nat.le_of_ble_eq_true rfl) dX12_named__122 ⟨Nat.le_of_ble_eq_true rfl, Nat.le_of_ble_eq_true rfl⟩) hP hD hK hS hA (fun z34 u35 H locs w36 hP hD hK hS => ?_)
        obtain ⟨rgz34, t37, t38⟩ := w36
        replace rgz34 : (-1) ≤ z34.toInt ∧ z34.toInt ≤ 47 := rgz34
        replace t37 : z34.toInt < ((V 16 (Int32.toNatClampNeg (V 0 11)))).toInt := t37
        replace t38 : LF (fun i => L11 17 (z32.toInt.toNat + i)) ((V 16 (Int32.toNatClampNeg (V 0 11)))).toInt ((L11 6 0)) z34.toInt := t38
        have pq40 : (V10 16 bq).toInt = ((V 16 bq)).toInt := congrArg Int32.toInt ((ajV10 16 bq rfl).trans (up2_o hV2 (by decide)))
        have r41 : 0 ≤ ((V 16 bq)).toInt ∧ ((V 16 bq)).toInt ≤ 12 := hMV 16 bq
        have kb9 : Int32.toNatClampNeg (V 0 11) = bq := by have h9 := i_clamp (x := V 0 11) rfl (by (first | exact om_eafa9039069c r1.1 | omega)); (first | exact om_7d9cc8d6a75e zq1 h9 | omega)
        have hb9 : (V 16 (Int32.toNatClampNeg (V 0 11))).toInt = (V 16 bq).toInt := by rw [kb9]
        have lf39 : LF (fun i => L 17 (12 * bq + i)) (V 16 bq).toInt (L11 6 0) z34.toInt := by have h9 := t38; rw [show z32.toInt.toNat = 12 * bq from by omega, show ((V 16 (Int32.toNatClampNeg (V 0 11)))).toInt = (V 16 bq).toInt from by omega, (funext fun q9 => alL11 17 q9 rfl : L11 17 = L 17)] at h9; exact h9
        exact W.iret (v := z34) hx hb hr (fun t ht hW => ⟨⟨z34, (V10, L11), rfl, ⟨hMV10, agV10, alL11, (by rw [show p0.toInt = ((1 : Nat) : Int) from by omega]; exact LF.nm lf39 tb4.2.1.1 tb4.2.1.2 (nk 1 (by decide)) (by decide) (TkM.nm2 tk0 (by (first | exact om_710535a98d88 f17 | omega)) (by (first | exact om_b66ba74381d5 f19 | omega))))⟩, by rw [ht]; exact hP, va_K.moved hW.alike hK, hD⟩, hS.F ht⟩) hS.2.2 dX12_named__125
      by_cases q42 : p0 = 2
      · refine g_top (v := 2) q42 ?_
        have fq42 : p0.toInt = 2 := b_eq rfl (by decide) q42
        refine lv_tableIn (x := 2) (off := 95) (tgt := 126) hx hb dX12_named__31 (by decide) (by decide) (by decide) (by decide) ?_
        refine lv_aload_n hx hb dX12_named__126 rfl (lv_at hl 0 rfl) ?_
        refine lv_aload_n hx hb dX12_named__127 rfl (lv_at hl 0 rfl) ?_
        refine va_get (D := D) (ci := 12) (v := .ref (ad 20)) (C := RX12) (T := TX12) (N := 100) hx hb hg inX12 hown hK hP 0 rfl rfl 20 (by decide) (hg _ w1726) (fun _ h9 => h9) rfl dX12_named__128 ?_
        refine lv_bipush (v := 24) hx hb dX12_named__131 (by decide) ?_
        refine lv_aload_n hx hb dX12_named__133 rfl (lv_at hl 0 rfl) ?_
        refine va_get (D := D) (ci := 12) (v := .int (V10 0 11)) (C := RX12) (T := TX12) (N := 100) hx hb hg inX12 hown hK hP 0 rfl rfl 11 (by decide) (hg _ w1717) (fun _ h9 => h9) rfl dX12_named__134 ?_
        refine g_top (v := (V 0 11)) ((ajV10 0 11 rfl).trans (up2_k hV2 (by decide))) ?_
        refine lv_imul hx hb dX12_named__137 ?_
        refine lv_topi (fun z43 ez43 => ?_)
        have hz43 : z43.toInt = 24 * ((V 0 11)).toInt := i_mul ez43 (by decide) rfl (by (first | exact om_3f8aba7b6ce1 r1.1 r1.2 | omega))
        refine lv_aload_n hx hb dX12_named__138 rfl (lv_at hl 0 rfl) ?_
        refine va_get (D := D) (ci := 12) (v := .ref (ad 19)) (C := RX12) (T := TX12) (N := 100) hx hb hg inX12 hown hK hP 0 rfl rfl 19 (by decide) (hg _ w1725) (fun _ h9 => h9) rfl dX12_named__139 ?_
        refine lv_aload_n hx hb dX12_named__142 rfl (lv_at hl 0 rfl) ?_
        refine va_get (D := D) (ci := 12) (v := .int (V10 0 11)) (C := RX12) (T := TX12) (N := 100) hx hb hg inX12 hown hK hP 0 rfl rfl 11 (by decide) (hg _ w1717) (fun _ h9 => h9) rfl dX12_named__143 ?_
        refine g_top (v := (V 0 11)) ((ajV10 0 11 rfl).trans (up2_k hV2 (by decide))) ?_
        refine va_iald (D := D) (i := (V 0 11)) hx hb hK hP 12 11 rfl rfl (i_in (a := ((V 0 11)).toInt) rfl (by (first | exact om_8367a84723c7 r1.1 r1.2 | omega))) dX12_named__146 ?_
        refine g_top (v := (V 19 (Int32.toNatClampNeg (V 0 11)))) ((ajV10 19 (Int32.toNatClampNeg (V 0 11)) rfl).trans (up2_o hV2 (by decide))) ?_
        have r44 : 0 ≤ ((V 19 (Int32.toNatClampNeg (V 0 11)))).toInt ∧ ((V 19 (Int32.toNatClampNeg (V 0 11)))).toInt ≤ 24 := hMV 19 (Int32.toNatClampNeg (V 0 11))
        refine lv_aload_n hx hb dX12_named__147 rfl (lv_at hl 0 rfl) ?_
        refine va_get (D := D) (ci := 12) (v := .ref (ad 6)) (C := RX12) (T := TX12) (N := 100) hx hb hg inX12 hown hK hP 0 rfl rfl 6 (by decide) (hg _ w1712) (fun _ h9 => h9) rfl dX12_named__148 ?_
        refine lv_iconst (v := 0) hx hb dX12_named__151 (by decide) ?_
        refine va_lald (D := D) (i := 0) hx hb hK hP 4 3 rfl rfl (i_in (a := 0) (by decide) (by decide)) dX12_named__152 ?_
        refine gA_int (gA_runV (As := [.ref (ad 20), .int z43, .int (V 19 (Int32.toNatClampNeg (V 0 11))), .long (L11 6 0)]) (rest := []) (ci := 12) (q0 := 0) hx hb hml hown hg hP hD hK hS hA hnw hgk (s_find2_componentName l D ks H.size ad kk V10 L11 z43 (V 19 (Int32.toNatClampNeg (V 0 11))) (L11 6 0) hMV10 (by (first | exact om_c44c09625d4d r1.1 r1.2 hz43 | omega)) (by (first | exact om_f82fee59341f r44.1 r44.2 | omega)) (show z43.toInt + ((V 19 (Int32.toNatClampNeg (V 0 11)))).toInt ≤ 48 from by (first | exact om_6f18d472129c r1.2 hz43 r44.2 | omega))) w2047 w2049 w89 w172 w2050 rfl rfl hdV_yX12_find ⟨Nat.le_of_ble_eq_true rfl, Nat.le_of_ble_eq_true rfl⟩ rfl hl.1 rfl (Nat.le_of_ble_eq_true rfl) dX12_named__153 ⟨Nat.le_of_ble_eq_true rfl, Nat.le_of_ble_eq_true rfl⟩) hP hD hK hS hA (fun z45 u46 H locs w47 hP hD hK hS => ?_)
        obtain ⟨rgz45, t48, t49⟩ := w47
        replace rgz45 : (-1) ≤ z45.toInt ∧ z45.toInt ≤ 47 := rgz45
        replace t48 : z45.toInt < ((V 19 (Int32.toNatClampNeg (V 0 11)))).toInt := t48
        replace t49 : LF (fun i => L11 20 (z43.toInt.toNat + i)) ((V 19 (Int32.toNatClampNeg (V 0 11)))).toInt ((L11 6 0)) z45.toInt := t49
        have pq51 : (V10 19 bq).toInt = ((V 19 bq)).toInt := congrArg Int32.toInt ((ajV10 19 bq rfl).trans (up2_o hV2 (by decide)))
        have r52 : 0 ≤ ((V 19 bq)).toInt ∧ ((V 19 bq)).toInt ≤ 24 := hMV 19 bq
        have kb9 : Int32.toNatClampNeg (V 0 11) = bq := by have h9 := i_clamp (x := V 0 11) rfl (by (first | exact om_eafa9039069c r1.1 | omega)); (first | exact om_7d9cc8d6a75e zq1 h9 | omega)
        have hb9 : (V 19 (Int32.toNatClampNeg (V 0 11))).toInt = (V 19 bq).toInt := by rw [kb9]
        have lf50 : LF (fun i => L 20 (24 * bq + i)) (V 19 bq).toInt (L11 6 0) z45.toInt := by have h9 := t49; rw [show z43.toInt.toNat = 24 * bq from by omega, show ((V 19 (Int32.toNatClampNeg (V 0 11)))).toInt = (V 19 bq).toInt from by omega, (funext fun q9 => alL11 20 q9 rfl : L11 20 = L 20)] at h9; exact h9
        exact W.iret (v := z45) hx hb hr (fun t ht hW => ⟨⟨z45, (V10, L11), rfl, ⟨hMV10, agV10, alL11, (by rw [show p0.toInt = ((2 : Nat) : Int) from by omega]; exact LF.nm lf50 tb4.2.2.1.1 tb4.2.2.1.2 (nk 2 (by decide)) (by decide) (TkM.nm2 tk0 (by (first | exact om_710535a98d88 f17 | omega)) (by (first | exact om_b66ba74381d5 f19 | omega))))⟩, by rw [ht]; exact hP, va_K.moved hW.alike hK, hD⟩, hS.F ht⟩) hS.2.2 dX12_named__156
      by_cases q53 : p0 = 3
      · refine g_top (v := 3) q53 ?_
        have fq53 : p0.toInt = 3 := b_eq rfl (by decide) q53
        refine lv_tableIn (x := 3) (off := 126) (tgt := 157) hx hb dX12_named__31 (by decide) (by decide) (by decide) (by decide) ?_
        refine lv_aload_n hx hb dX12_named__157 rfl (lv_at hl 0 rfl) ?_
        refine lv_aload_n hx hb dX12_named__158 rfl (lv_at hl 0 rfl) ?_
        refine va_get (D := D) (ci := 12) (v := .ref (ad 36)) (C := RX12) (T := TX12) (N := 100) hx hb hg inX12 hown hK hP 0 rfl rfl 36 (by decide) (hg _ w1742) (fun _ h9 => h9) rfl dX12_named__159 ?_
        refine lv_bipush (v := 20) hx hb dX12_named__162 (by decide) ?_
        refine lv_aload_n hx hb dX12_named__164 rfl (lv_at hl 0 rfl) ?_
        refine va_get (D := D) (ci := 12) (v := .int (V10 0 11)) (C := RX12) (T := TX12) (N := 100) hx hb hg inX12 hown hK hP 0 rfl rfl 11 (by decide) (hg _ w1717) (fun _ h9 => h9) rfl dX12_named__165 ?_
        refine g_top (v := (V 0 11)) ((ajV10 0 11 rfl).trans (up2_k hV2 (by decide))) ?_
        refine lv_imul hx hb dX12_named__168 ?_
        refine lv_topi (fun z54 ez54 => ?_)
        have hz54 : z54.toInt = 20 * ((V 0 11)).toInt := i_mul ez54 (by decide) rfl (by (first | exact om_1c36e316c123 r1.1 r1.2 | omega))
        refine lv_aload_n hx hb dX12_named__169 rfl (lv_at hl 0 rfl) ?_
        refine va_get (D := D) (ci := 12) (v := .ref (ad 35)) (C := RX12) (T := TX12) (N := 100) hx hb hg inX12 hown hK hP 0 rfl rfl 35 (by decide) (hg _ w1741) (fun _ h9 => h9) rfl dX12_named__170 ?_
        refine lv_aload_n hx hb dX12_named__173 rfl (lv_at hl 0 rfl) ?_
        refine va_get (D := D) (ci := 12) (v := .int (V10 0 11)) (C := RX12) (T := TX12) (N := 100) hx hb hg inX12 hown hK hP 0 rfl rfl 11 (by decide) (hg _ w1717) (fun _ h9 => h9) rfl dX12_named__174 ?_
        refine g_top (v := (V 0 11)) ((ajV10 0 11 rfl).trans (up2_k hV2 (by decide))) ?_
        refine va_iald (D := D) (i := (V 0 11)) hx hb hK hP 28 27 rfl rfl (i_in (a := ((V 0 11)).toInt) rfl (by (first | exact om_8367a84723c7 r1.1 r1.2 | omega))) dX12_named__177 ?_
        refine g_top (v := (V 35 (Int32.toNatClampNeg (V 0 11)))) ((ajV10 35 (Int32.toNatClampNeg (V 0 11)) rfl).trans (up2_o hV2 (by decide))) ?_
        have r55 : 0 ≤ ((V 35 (Int32.toNatClampNeg (V 0 11)))).toInt ∧ ((V 35 (Int32.toNatClampNeg (V 0 11)))).toInt ≤ 20 := hMV 35 (Int32.toNatClampNeg (V 0 11))
        refine lv_aload_n hx hb dX12_named__178 rfl (lv_at hl 0 rfl) ?_
        refine va_get (D := D) (ci := 12) (v := .ref (ad 6)) (C := RX12) (T := TX12) (N := 100) hx hb hg inX12 hown hK hP 0 rfl rfl 6 (by decide) (hg _ w1712) (fun _ h9 => h9) rfl dX12_named__179 ?_
        refine lv_iconst (v := 0) hx hb dX12_named__182 (by decide) ?_
        refine va_lald (D := D) (i := 0) hx hb hK hP 4 3 rfl rfl (i_in (a := 0) (by decide) (by decide)) dX12_named__183 ?_
        refine gA_int (gA_runV (As := [.ref (ad 36), .int z54, .int (V 35 (Int32.toNatClampNeg (V 0 11))), .long (L11 6 0)]) (rest := []) (ci := 12) (q0 := 0) hx hb hml hown hg hP hD hK hS hA hnw hgk (s_find2_methodName l D ks H.size ad kk V10 L11 z54 (V 35 (Int32.toNatClampNeg (V 0 11))) (L11 6 0) hMV10 (by (first | exact om_c7296700d4dd r1.1 r1.2 hz54 | omega)) (by (first | exact om_ad40d0ac5b52 r55.1 r55.2 | omega)) (show z54.toInt + ((V 35 (Int32.toNatClampNeg (V 0 11)))).toInt ≤ 40 from by (first | exact om_03a4a2dc5d03 r1.2 hz54 r55.2 | omega))) w2047 w2049 w89 w172 w2050 rfl rfl hdV_yX12_find ⟨Nat.le_of_ble_eq_true rfl, Nat.le_of_ble_eq_true rfl⟩ rfl hl.1 rfl (Nat.le_of_ble_eq_true rfl) dX12_named__184 ⟨Nat.le_of_ble_eq_true rfl, Nat.le_of_ble_eq_true rfl⟩) hP hD hK hS hA (fun z56 u57 H locs w58 hP hD hK hS => ?_)
        obtain ⟨rgz56, t59, t60⟩ := w58
        replace rgz56 : (-1) ≤ z56.toInt ∧ z56.toInt ≤ 47 := rgz56
        replace t59 : z56.toInt < ((V 35 (Int32.toNatClampNeg (V 0 11)))).toInt := t59
        replace t60 : LF (fun i => L11 36 (z54.toInt.toNat + i)) ((V 35 (Int32.toNatClampNeg (V 0 11)))).toInt ((L11 6 0)) z56.toInt := t60
        have pq62 : (V10 35 bq).toInt = ((V 35 bq)).toInt := congrArg Int32.toInt ((ajV10 35 bq rfl).trans (up2_o hV2 (by decide)))
        have r63 : 0 ≤ ((V 35 bq)).toInt ∧ ((V 35 bq)).toInt ≤ 20 := hMV 35 bq
        have kb9 : Int32.toNatClampNeg (V 0 11) = bq := by have h9 := i_clamp (x := V 0 11) rfl (by (first | exact om_eafa9039069c r1.1 | omega)); (first | exact om_7d9cc8d6a75e zq1 h9 | omega)
        have hb9 : (V 35 (Int32.toNatClampNeg (V 0 11))).toInt = (V 35 bq).toInt := by rw [kb9]
        have lf61 : LF (fun i => L 36 (20 * bq + i)) (V 35 bq).toInt (L11 6 0) z56.toInt := by have h9 := t60; rw [show z54.toInt.toNat = 20 * bq from by omega, show ((V 35 (Int32.toNatClampNeg (V 0 11)))).toInt = (V 35 bq).toInt from by omega, (funext fun q9 => alL11 36 q9 rfl : L11 36 = L 36)] at h9; exact h9
        exact W.iret (v := z56) hx hb hr (fun t ht hW => ⟨⟨z56, (V10, L11), rfl, ⟨hMV10, agV10, alL11, (by rw [show p0.toInt = ((3 : Nat) : Int) from by omega]; exact LF.nm lf61 tb4.2.2.2.1.1 tb4.2.2.2.1.2 (nk 3 (by decide)) (by decide) (TkM.nm2 tk0 (by (first | exact om_710535a98d88 f17 | omega)) (by (first | exact om_b66ba74381d5 f19 | omega))))⟩, by rw [ht]; exact hP, va_K.moved hW.alike hK, hD⟩, hS.F ht⟩) hS.2.2 dX12_named__187
      by_cases q64 : p0 = 4
      · refine g_top (v := 4) q64 ?_
        have fq64 : p0.toInt = 4 := b_eq rfl (by decide) q64
        refine lv_tableIn (x := 4) (off := 157) (tgt := 188) hx hb dX12_named__31 (by decide) (by decide) (by decide) (by decide) ?_
        refine lv_aload_n hx hb dX12_named__188 rfl (lv_at hl 0 rfl) ?_
        refine lv_aload_n hx hb dX12_named__189 rfl (lv_at hl 0 rfl) ?_
        refine va_get (D := D) (ci := 12) (v := .ref (ad 38)) (C := RX12) (T := TX12) (N := 100) hx hb hg inX12 hown hK hP 0 rfl rfl 38 (by decide) (hg _ w1744) (fun _ h9 => h9) rfl dX12_named__190 ?_
        refine lv_bipush (v := 20) hx hb dX12_named__193 (by decide) ?_
        refine lv_aload_n hx hb dX12_named__195 rfl (lv_at hl 0 rfl) ?_
        refine va_get (D := D) (ci := 12) (v := .int (V10 0 11)) (C := RX12) (T := TX12) (N := 100) hx hb hg inX12 hown hK hP 0 rfl rfl 11 (by decide) (hg _ w1717) (fun _ h9 => h9) rfl dX12_named__196 ?_
        refine g_top (v := (V 0 11)) ((ajV10 0 11 rfl).trans (up2_k hV2 (by decide))) ?_
        refine lv_imul hx hb dX12_named__199 ?_
        refine lv_topi (fun z65 ez65 => ?_)
        have hz65 : z65.toInt = 20 * ((V 0 11)).toInt := i_mul ez65 (by decide) rfl (by (first | exact om_1c36e316c123 r1.1 r1.2 | omega))
        refine lv_aload_n hx hb dX12_named__200 rfl (lv_at hl 0 rfl) ?_
        refine va_get (D := D) (ci := 12) (v := .ref (ad 37)) (C := RX12) (T := TX12) (N := 100) hx hb hg inX12 hown hK hP 0 rfl rfl 37 (by decide) (hg _ w1743) (fun _ h9 => h9) rfl dX12_named__201 ?_
        refine lv_aload_n hx hb dX12_named__204 rfl (lv_at hl 0 rfl) ?_
        refine va_get (D := D) (ci := 12) (v := .int (V10 0 11)) (C := RX12) (T := TX12) (N := 100) hx hb hg inX12 hown hK hP 0 rfl rfl 11 (by decide) (hg _ w1717) (fun _ h9 => h9) rfl dX12_named__205 ?_
        refine g_top (v := (V 0 11)) ((ajV10 0 11 rfl).trans (up2_k hV2 (by decide))) ?_
        refine va_iald (D := D) (i := (V 0 11)) hx hb hK hP 30 29 rfl rfl (i_in (a := ((V 0 11)).toInt) rfl (by (first | exact om_8367a84723c7 r1.1 r1.2 | omega))) dX12_named__208 ?_
        refine g_top (v := (V 37 (Int32.toNatClampNeg (V 0 11)))) ((ajV10 37 (Int32.toNatClampNeg (V 0 11)) rfl).trans (up2_o hV2 (by decide))) ?_
        have r66 : 0 ≤ ((V 37 (Int32.toNatClampNeg (V 0 11)))).toInt ∧ ((V 37 (Int32.toNatClampNeg (V 0 11)))).toInt ≤ 20 := hMV 37 (Int32.toNatClampNeg (V 0 11))
        refine lv_aload_n hx hb dX12_named__209 rfl (lv_at hl 0 rfl) ?_
        refine va_get (D := D) (ci := 12) (v := .ref (ad 6)) (C := RX12) (T := TX12) (N := 100) hx hb hg inX12 hown hK hP 0 rfl rfl 6 (by decide) (hg _ w1712) (fun _ h9 => h9) rfl dX12_named__210 ?_
        refine lv_iconst (v := 0) hx hb dX12_named__213 (by decide) ?_
        refine va_lald (D := D) (i := 0) hx hb hK hP 4 3 rfl rfl (i_in (a := 0) (by decide) (by decide)) dX12_named__214 ?_
        refine gA_int (gA_runV (As := [.ref (ad 38), .int z65, .int (V 37 (Int32.toNatClampNeg (V 0 11))), .long (L11 6 0)]) (rest := []) (ci := 12) (q0 := 0) hx hb hml hown hg hP hD hK hS hA hnw hgk (s_find2_callName l D ks H.size ad kk V10 L11 z65 (V 37 (Int32.toNatClampNeg (V 0 11))) (L11 6 0) hMV10 (by (first | exact om_c7296700d4dd r1.1 r1.2 hz65 | omega)) (by (first | exact om_ad40d0ac5b52 r66.1 r66.2 | omega)) (show z65.toInt + ((V 37 (Int32.toNatClampNeg (V 0 11)))).toInt ≤ 40 from by (first | exact om_03a4a2dc5d03 r1.2 hz65 r66.2 | omega))) w2047 w2049 w89 w172 w2050 rfl rfl hdV_yX12_find ⟨Nat.le_of_ble_eq_true rfl, Nat.le_of_ble_eq_true rfl⟩ rfl hl.1 rfl (Nat.le_of_ble_eq_true rfl) dX12_named__215 ⟨Nat.le_of_ble_eq_true rfl, Nat.le_of_ble_eq_true rfl⟩) hP hD hK hS hA (fun z67 u68 H locs w69 hP hD hK hS => ?_)
        obtain ⟨rgz67, t70, t71⟩ := w69
        replace rgz67 : (-1) ≤ z67.toInt ∧ z67.toInt ≤ 47 := rgz67
        replace t70 : z67.toInt < ((V 37 (Int32.toNatClampNeg (V 0 11)))).toInt := t70
        replace t71 : LF (fun i => L11 38 (z65.toInt.toNat + i)) ((V 37 (Int32.toNatClampNeg (V 0 11)))).toInt ((L11 6 0)) z67.toInt := t71
        have pq73 : (V10 37 bq).toInt = ((V 37 bq)).toInt := congrArg Int32.toInt ((ajV10 37 bq rfl).trans (up2_o hV2 (by decide)))
        have r74 : 0 ≤ ((V 37 bq)).toInt ∧ ((V 37 bq)).toInt ≤ 20 := hMV 37 bq
        have kb9 : Int32.toNatClampNeg (V 0 11) = bq := by have h9 := i_clamp (x := V 0 11) rfl (by (first | exact om_eafa9039069c r1.1 | omega)); (first | exact om_7d9cc8d6a75e zq1 h9 | omega)
        have hb9 : (V 37 (Int32.toNatClampNeg (V 0 11))).toInt = (V 37 bq).toInt := by rw [kb9]
        have lf72 : LF (fun i => L 38 (20 * bq + i)) (V 37 bq).toInt (L11 6 0) z67.toInt := by have h9 := t71; rw [show z65.toInt.toNat = 20 * bq from by omega, show ((V 37 (Int32.toNatClampNeg (V 0 11)))).toInt = (V 37 bq).toInt from by omega, (funext fun q9 => alL11 38 q9 rfl : L11 38 = L 38)] at h9; exact h9
        exact W.iret (v := z67) hx hb hr (fun t ht hW => ⟨⟨z67, (V10, L11), rfl, ⟨hMV10, agV10, alL11, (by rw [show p0.toInt = ((4 : Nat) : Int) from by omega]; exact LF.nm lf72 tb4.2.2.2.2.1 tb4.2.2.2.2.2 (nk 4 (by decide)) (by decide) (TkM.nm2 tk0 (by (first | exact om_710535a98d88 f17 | omega)) (by (first | exact om_b66ba74381d5 f19 | omega))))⟩, by rw [ht]; exact hP, va_K.moved hW.alike hK, hD⟩, hS.F ht⟩) hS.2.2 dX12_named__218
      refine lv_tableOut (x := p0) (tgt := 219) hx hb dX12_named__31 (tab_out p0 4 (by decide) (fun k hk => match k, hk with | 0, _ => q20 | 1, _ => q31 | 2, _ => q42 | 3, _ => q53 | 4, _ => q64 | k + 5, hk => absurd hk (by omega))) (by decide) ?_
      have gd75 : p0.toInt ≠ 0 := fun h9 => q20 (Int32.toInt_inj.mp (h9.trans (by decide)))
      have gd76 : p0.toInt ≠ 1 := fun h9 => q31 (Int32.toInt_inj.mp (h9.trans (by decide)))
      have gd77 : p0.toInt ≠ 2 := fun h9 => q42 (Int32.toInt_inj.mp (h9.trans (by decide)))
      have gd78 : p0.toInt ≠ 3 := fun h9 => q53 (Int32.toInt_inj.mp (h9.trans (by decide)))
      have gd79 : p0.toInt ≠ 4 := fun h9 => q64 (Int32.toInt_inj.mp (h9.trans (by decide)))
      refine lv_iconst (v := (-1)) hx hb dX12_named__219 (by decide) ?_
      have r80 : Int32.toInt (-1) = (-1) := by decide
      exact W.iret (v := (-1)) hx hb hr (fun t ht hW => ⟨⟨(-1), (V10, L11), rfl, ⟨hMV10, agV10, alL11, (by rw [nmF_n (fun q9 => by have q1 := q9.2.2; omega)]; decide)⟩, by rw [ht]; exact hP, va_K.moved hW.alike hK, hD⟩, hS.F ht⟩) hS.2.2 dX12_named__220
    · skip
      have f81 : ((V10 4 1)).toInt ≠ 0 := b_neq rfl (by decide) c18
      refine lv_iconst (v := (-1)) hx hb dX12_named__28 (by decide) ?_
      have r82 : Int32.toInt (-1) = (-1) := by decide
      exact W.iret (v := (-1)) hx hb hr (fun t ht hW => ⟨⟨(-1), (V10, L11), rfl, ⟨hMV10, agV10, alL11, (by rw [nmF_n (fun q9 => TkM.nm1 tk0 (by (first | exact om_710535a98d88 f17 | omega)) (by omega) q9.2.1)]; decide)⟩, by rw [ht]; exact hP, va_K.moved hW.alike hK, hD⟩, hS.F ht⟩) hS.2.2 dX12_named__29
end
section
/-! two pictures of one heap -/
theorem at_l {D : va_G} {cl : List vw_C} {a n : Nat} {c : ClassId} {f g : Nat → Int64} {H : Heap} (h : va_at D cl (a, .inl (c, n, .inr (.inl f))) H) (h' : va_at D cl (a, .inl (c, n, .inr (.inl g))) H) {k : Nat} (hk : k < n) : f k = g k := by
  have h1 : H[a]? = some (vp_cell c (n, .inr (.inl f))) := h
  have h2 : H[a]? = some (vp_cell c (n, .inr (.inl g))) := h'
  have e := Option.some.inj (h1.symm.trans h2)
  rw [vp_cell_l, vp_cell_l] at e
  have z : (arrV c n (fun j => .long (f j))).slots[k]? = (arrV c n (fun j => .long (g j))).slots[k]? := by rw [e]
  rw [arrV_read _ _ hk, arrV_read _ _ hk] at z
  injection z with z
  injection z with z
theorem at_i {D : va_G} {cl : List vw_C} {a n : Nat} {c : ClassId} {f g : Nat → Int32} {H : Heap} (h : va_at D cl (a, .inl (c, n, .inl f)) H) (h' : va_at D cl (a, .inl (c, n, .inl g)) H) {k : Nat} (hk : k < n) : f k = g k := by
  have h1 : H[a]? = some (vp_cell c (n, .inl f)) := h
  have h2 : H[a]? = some (vp_cell c (n, .inl g)) := h'
  have e := Option.some.inj (h1.symm.trans h2)
  rw [vp_cell_i, vp_cell_i] at e
  have z : (arrV c n (fun j => .int (f j))).slots[k]? = (arrV c n (fun j => .int (g j))).slots[k]? := by rw [e]
  rw [arrV_read _ _ hk, arrV_read _ _ hk] at z
  injection z with z
  injection z with z
theorem at_o {D : va_G} {cl : List vw_C} {a ci : Nat} {fs gs : List Value} {H : Heap} {r : vw_C} (h : va_at D cl (a, .inr (ci, fs)) H) (h' : va_at D cl (a, .inr (ci, gs)) H) (hr : cl[ci]? = some r) {k : Nat} (hk : k < r.2.2) : vp_V fs k = vp_V gs k := by
  obtain ⟨r1, e1, cell, hc, _, _, hs⟩ := h
  obtain ⟨r2, e2, cell', hc', _, _, hs'⟩ := h'
  have q1 := Option.some.inj (e1.symm.trans hr)
  have q2 := Option.some.inj (e2.symm.trans hr)
  have hc : H[a]? = some cell := hc
  have hc' : H[a]? = some cell' := hc'
  have q3 := Option.some.inj (hc.symm.trans hc')
  subst q1 q2 q3
  exact Option.some.inj ((hs k hk).symm.trans (hs' k hk))
def LKc (V : Vf) (L : Lf) (V2 : Vf) (L2 : Lf) : Prop := (∀ i, i < 10 → V2 43 i = V 43 i) ∧ ∀ i k, i < 10 → k < xcap i → L2 44 (24 * i + k) = L 44 (24 * i + k)
theorem LKc.of {D : va_G} {ad : Nat → Nat} {kk : Nat → ClassId} {V V2 : Vf} {L L2 : Lf} {Z : XZ} {H : Heap} (h : va_P D vwCl (xw ad kk V L Z) H) (h' : va_P D vwCl (xw ad kk V2 L2 Z) H) : LKc V L V2 L2 := by
  refine ⟨fun i hi => ?_, fun i k hi hk => ?_⟩
  · have z := at_o (h' _ _ (xgNames hi)) (h _ _ (xgNames hi)) (r := (RX6, TX6, 2)) rfl (k := 1) (by decide)
    have z : Value.int (V2 43 i) = Value.int (V 43 i) := z
    injection z with z
  · have c := (xcap_le i).2
    have z := at_l (h' _ _ (xgwords hi)) (h _ _ (xgwords hi)) hk
    have z : (if k < 24 then L2 44 (24 * i + k) else 0) = (if k < 24 then L 44 (24 * i + k) else 0) := z
    rw [if_pos (by omega), if_pos (by omega)] at z
    exact z
theorem TBc.lk {V V3 : Vf} {L L2 : Lf} {b : Nat} {s : St} (h : TBc V3 L2 b s) (hM : rgd bX V3) (hb : b < 2) (l43 : ∀ i, i < 10 → V3 43 i = V 43 i) (l44 : ∀ i k, i < 10 → k < xcap i → L2 44 (24 * i + k) = L 44 (24 * i + k)) : TBc V L b s := by
  intro j hj
  have z := h j hj
  have c2 : (V3 43 (5 * b + j)).toInt ≤ ((xcap (5 * b + j) : Nat) : Int) := (hM 43 _).2
  have c := z.1
  rw [l43 _ (by omega)] at z c c2
  exact z.row (fun i hi => (l44 _ _ (by omega) (by omega)).symm)
def LKm (V : Vf) (L : Lf) (V2 : Vf) (L2 : Lf) : Prop := (∀ k, k < 2 → V2 13 k = V 13 k ∧ V2 16 k = V 16 k ∧ V2 19 k = V 19 k ∧ V2 35 k = V 35 k ∧ V2 37 k = V 37 k) ∧ (∀ k, k < 48 → L2 14 k = L 14 k ∧ L2 20 k = L 20 k) ∧ (∀ k, k < 24 → L2 17 k = L 17 k) ∧ ∀ k, k < 40 → L2 36 k = L 36 k ∧ L2 38 k = L 38 k
theorem LKm.of {D : va_G} {ad : Nat → Nat} {kk : Nat → ClassId} {k1 : Nat} {V V2 : Vf} {L L2 : Lf} {H : Heap} (h : va_P D vwCl (mw ad kk k1 V L) H) (h' : va_P D vwCl (mw ad kk k1 V2 L2) H) : LKm V L V2 L2 :=
  ⟨fun k hk => ⟨at_i (h' 6 _ rfl) (h 6 _ rfl) hk, at_i (h' 9 _ rfl) (h 9 _ rfl) hk, at_i (h' 12 _ rfl) (h 12 _ rfl) hk, at_i (h' 28 _ rfl) (h 28 _ rfl) hk, at_i (h' 30 _ rfl) (h 30 _ rfl) hk⟩, fun k hk => ⟨at_l (h' 7 _ rfl) (h 7 _ rfl) hk, at_l (h' 13 _ rfl) (h 13 _ rfl) hk⟩, fun k hk => at_l (h' 10 _ rfl) (h 10 _ rfl) hk, fun k hk => ⟨at_l (h' 29 _ rfl) (h 29 _ rfl) hk, at_l (h' 31 _ rfl) (h 31 _ rfl) hk⟩⟩
theorem TBm.lk {V V2 : Vf} {L L2 : Lf} {q : Nat} {s : St} {l2 : List Int64} (h : TBm V2 L2 q s l2) (hM : rgd bM V2) (hq : q < 2) (l : LKm V L V2 L2) : TBm V L q s l2 := by
  obtain ⟨e13, e16, e19, e35, e37⟩ := l.1 q hq
  have b13 : (V2 13 q).toInt ≤ 24 := (hM 13 q).2
  have b16 : (V2 16 q).toInt ≤ 12 := (hM 16 q).2
  have b19 : (V2 19 q).toInt ≤ 24 := (hM 19 q).2
  have b35 : (V2 35 q).toInt ≤ 20 := (hM 35 q).2
  have b37 : (V2 37 q).toInt ≤ 20 := (hM 37 q).2
  obtain ⟨⟨a0, d0⟩, ⟨a1, d1⟩, ⟨a2, d2⟩, ⟨a3, d3⟩, ⟨a4, d4⟩⟩ := h
  have c0 := a0.1
  have c1 := a1.1
  have c2 := a2.1
  have c3 := a3.1
  have c4 := a4.1
  unfold TBm
  rw [← e13, ← e16, ← e19, ← e35, ← e37]
  exact ⟨⟨a0.row (fun i hi => (l.2.1 _ (by omega)).1.symm), d0⟩, ⟨a1.row (fun i hi => (l.2.2.1 _ (by omega)).symm), d1⟩, ⟨a2.row (fun i hi => (l.2.1 _ (by omega)).2.symm), d2⟩, ⟨a3.row (fun i hi => (l.2.2.2 _ (by omega)).1.symm), d3⟩, ⟨a4.row (fun i hi => (l.2.2.2 _ (by omega)).2.symm), d4⟩⟩
theorem Met.bothr {l : Launch} {y : MethodName} {ws : List Cond} {rm : Room} {Pc : Array Value → State → Prop} {S S2 : Type} {p1 : Int32 → S → Prop} {p2 : Int32 → S2 → Prop} {B1 : S → State → Prop} {B2 : S2 → State → Prop} {A : Nat → Prop} {mc ms : Nat} {free : Addr → Prop} (R : S → S2 → Prop) (h1 : Met l y ws rm Pc (va_Qi p1 B1 A) mc ms free) (h2 : Met l y ws rm Pc (va_Qi p2 B2 A) mc ms free) (hB : ∀ u u2 t, B1 u t → B2 u2 t → R u u2) : Met l y ws rm Pc (va_Qi (fun r u => p1 r u ∧ ∃ u2, p2 r u2 ∧ R u u2) B1 A) mc ms free := by
  unfold Met MetFree at h1 h2 ⊢
  intro p e ha hf hc s m args below hfr hS hP hK
  obtain ⟨n, o, w, r, en, q, fr⟩ := h1 p e ha hf hc s m args below hfr hS hP hK
  obtain ⟨n', o', w', r', en', q', fr'⟩ := h2 p e ha hf hc s m args below hfr hS hP hK
  have hn : n = n' := by
    rcases Nat.lt_trichotomy n n' with h | h | h
    · exact absurd (w' n h) en.not_within
    · exact h
    · exact absurd (w n' h) en'.not_within
  subst hn
  have ho := en.outcome_unique en'
  subst ho
  obtain ⟨⟨r1, u1, e1, k1, b1⟩, f1⟩ := q
  obtain ⟨⟨r2, u2, e2, k2, b2⟩, f2⟩ := q'
  have er : r1 = r2 := by
    have z := e1.symm.trans e2
    cases z
    rfl
  subst er
  exact ⟨n, o, w, r, en, ⟨⟨r1, u1, e1, ⟨k1, u2, k2, hB _ _ _ b1 b2⟩, b1⟩, f1⟩, fr⟩
end
section
/-! what the law keeps of the BOOK's content -/
def LKd (V V2 : Vf) : Prop := (∀ b k, b < 2 → k < 12 → V2 46 (12 * b + k) = V 46 (12 * b + k)) ∧ (∀ i, i < 48 → V2 49 i = V 49 i ∧ V2 50 i = V 50 i ∧ V2 51 i = V 51 i ∧ V2 52 i = V 52 i ∧ V2 53 i = V 53 i ∧ V2 54 i = V 54 i ∧ V2 55 i = V 55 i) ∧ (∀ i k, i < 48 → k < 8 → V2 58 (8 * i + k) = V 58 (8 * i + k) ∧ V2 59 (8 * i + k) = V 59 (8 * i + k) ∧ V2 60 (8 * i + k) = V 60 (8 * i + k)) ∧ V2 0 8 = V 0 8
theorem LKd.of {D : va_G} {ad : Nat → Nat} {kk : Nat → ClassId} {V V2 : Vf} {L L2 : Lf} {Z : XZ} {H : Heap} (h : va_P D vwCl (xw ad kk V L Z) H) (h' : va_P D vwCl (xw ad kk V2 L2 Z) H) : LKd V V2 := by
  refine ⟨fun b k hb hk => ?_, fun i hi => ?_, fun i k hi hk => ?_, ?_⟩
  · have z := at_i (h' _ _ (xgsettingValues hb)) (h _ _ (xgsettingValues hb)) hk
    have z : (if k < 12 then V2 46 (12 * b + k) else 0) = (if k < 12 then V 46 (12 * b + k) else 0) := z
    rw [if_pos hk, if_pos hk] at z
    exact z
  · have f : ∀ k, k < 13 → vp_V (xfComp ad V2 i) k = vp_V (xfComp ad V i) k := fun k hk => at_o (h' _ _ (xgComp hi)) (h _ _ (xgComp hi)) (r := (RX3, TX3, 13)) rfl hk
    have z49 : Value.int (V2 49 i) = Value.int (V 49 i) := f 4 (by decide)
    injection z49 with z49
    have z50 : Value.int (V2 50 i) = Value.int (V 50 i) := f 5 (by decide)
    injection z50 with z50
    have z51 : Value.int (V2 51 i) = Value.int (V 51 i) := f 6 (by decide)
    injection z51 with z51
    have z52 : Value.int (V2 52 i) = Value.int (V 52 i) := f 7 (by decide)
    injection z52 with z52
    have z53 : Value.int (V2 53 i) = Value.int (V 53 i) := f 8 (by decide)
    injection z53 with z53
    have z54 : Value.int (V2 54 i) = Value.int (V 54 i) := f 9 (by decide)
    injection z54 with z54
    have z55 : Value.int (V2 55 i) = Value.int (V 55 i) := f 10 (by decide)
    injection z55 with z55
    exact ⟨z49, z50, z51, z52, z53, z54, z55⟩
  · have z58 : (if k < 8 then V2 58 (8 * i + k) else 0) = (if k < 8 then V 58 (8 * i + k) else 0) := at_i (h' _ _ (xgneedTypes hi)) (h _ _ (xgneedTypes hi)) hk
    rw [if_pos hk, if_pos hk] at z58
    have z59 : (if k < 8 then V2 59 (8 * i + k) else 0) = (if k < 8 then V 59 (8 * i + k) else 0) := at_i (h' _ _ (xgneedWords hi)) (h _ _ (xgneedWords hi)) hk
    rw [if_pos hk, if_pos hk] at z59
    have z60 : (if k < 8 then V2 60 (8 * i + k) else 0) = (if k < 8 then V 60 (8 * i + k) else 0) := at_i (h' _ _ (xgneedKinds hi)) (h _ _ (xgneedKinds hi)) hk
    rw [if_pos hk, if_pos hk] at z60
    exact ⟨z58, z59, z60⟩
  · have z : Value.int (V2 0 8) = Value.int (V 0 8) := at_o (h' _ _ xgHouse) (h _ _ xgHouse) (r := (RX11, TX11, 10)) rfl (k := 8) (by decide)
    injection z with z
def LKn (V V2 : Vf) : Prop := (∀ k, k < 24 → V2 18 k = V 18 k) ∧ (∀ k, k < 1152 → V2 21 k = V 21 k) ∧ (∀ k, k < 48 → V2 22 k = V 22 k ∧ V2 23 k = V 23 k ∧ V2 24 k = V 24 k ∧ V2 25 k = V 25 k ∧ V2 26 k = V 26 k ∧ V2 27 k = V 27 k) ∧ (∀ k, k < 384 → V2 28 k = V 28 k ∧ V2 29 k = V 29 k ∧ V2 30 k = V 30 k ∧ V2 31 k = V 31 k) ∧ V2 0 54 = V 0 54
theorem LKn.of {D : va_G} {ad : Nat → Nat} {kk : Nat → ClassId} {k1 : Nat} {V V2 : Vf} {L L2 : Lf} {H : Heap} (h : va_P D vwCl (mw ad kk k1 V L) H) (h' : va_P D vwCl (mw ad kk k1 V2 L2) H) : LKn V V2 := by
  refine ⟨fun k hk => at_i (h' 11 _ rfl) (h 11 _ rfl) hk, fun k hk => at_i (h' 14 _ rfl) (h 14 _ rfl) hk, fun k hk => ⟨at_i (h' 15 _ rfl) (h 15 _ rfl) hk, at_i (h' 16 _ rfl) (h 16 _ rfl) hk, at_i (h' 17 _ rfl) (h 17 _ rfl) hk, at_i (h' 18 _ rfl) (h 18 _ rfl) hk, at_i (h' 19 _ rfl) (h 19 _ rfl) hk, at_i (h' 20 _ rfl) (h 20 _ rfl) hk⟩, fun k hk => ⟨at_i (h' 21 _ rfl) (h 21 _ rfl) hk, at_i (h' 22 _ rfl) (h 22 _ rfl) hk, at_i (h' 23 _ rfl) (h 23 _ rfl) hk, at_i (h' 24 _ rfl) (h 24 _ rfl) hk⟩, ?_⟩
  have z : Value.int (V2 0 54) = Value.int (V 0 54) := at_o (h' 0 _ rfl) (h 0 _ rfl) (r := (RX12, TX12, 100)) rfl (k := 54) (by decide)
  injection z with z
theorem COc.lk {V V2 : Vf} {b : Nat} {s : St} (h : COc V2 b s) (ln : LNb s) (hb : b < 2) (l : LKd V V2) : COc V b s := fun c hc => by
  unfold LNb at ln
  have z := h c hc
  have a := l.2.1 (24 * b + c) (by omega)
  refine ⟨?_, ?_, z.2.2.1, fun j hj => ?_⟩
  · have q := z.1
    unfold HDr at q ⊢
    rw [← a.2.1, ← a.2.2.1, ← a.2.2.2.1, ← a.2.2.2.2.1, ← a.2.2.2.2.2.1, ← a.2.2.2.2.2.2]
    exact q
  · rw [← a.1]
    exact z.2.1
  · have n8 := z.2.2.1
    have q := z.2.2.2 j hj
    have e := l.2.2.1 (24 * b + c) j (by omega) (by omega)
    unfold NEr at q ⊢
    rw [← e.1, ← e.2.1, ← e.2.2]
    exact q
theorem COM.lk {V V2 : Vf} {q : Nat} {s : St} (h : COM V2 q s) (ln : LNb s) (hq : q < 2) (l : LKn V V2) : COM V q s := fun c hc => by
  unfold LNb at ln
  have z := h c hc
  have a := l.2.2.1 (24 * q + c) (by omega)
  refine ⟨?_, ?_, z.2.2.1, fun j hj => ?_⟩
  · have y := z.1
    unfold HDn at y ⊢
    rw [← a.1, ← a.2.1, ← a.2.2.1, ← a.2.2.2.1, ← a.2.2.2.2.1]
    refine ⟨fun g hg => ?_, y.2⟩
    rw [← l.2.1 _ (by omega)]
    exact y.1 g hg
  · rw [← a.2.2.2.2.2]
    exact z.2.1
  · have n8 := z.2.2.1
    have y := z.2.2.2 j hj
    have e := l.2.2.2.1 (8 * (24 * q + c) + j) (by omega)
    unfold NEm at y ⊢
    rw [← e.1, ← e.2.1, ← e.2.2.1, ← e.2.2.2]
    exact y
theorem COc.row {V W : Vf} {b b1 : Nat} {s : St} (h : COc V b s) (ln : LNb s) (hb : b + b1 = 1) (f : frX (xR b1) V W) : COc W b s := fun c hc => by
  unfold LNb at ln
  have z := h c hc
  have a : ∀ x, 49 ≤ x → x ≤ 55 → W x (24 * b + c) = V x (24 * b + c) := fun x h1 h2 => f x _ ⟨by omega, by omega⟩ (by
    have e : xR b1 x = (24 * b1, 24 * b1 + 24) := by
      unfold xR
      rw [if_neg (by omega), if_neg (by omega), if_neg (by omega), if_neg (by omega), if_neg (by omega), if_neg (by omega), if_pos (by omega)]
    rw [e]
    show 24 * b + c < 24 * b1 ∨ 24 * b1 + 24 ≤ 24 * b + c
    omega)
  have n8 := z.2.2.1
  have e : ∀ x j, 58 ≤ x → x ≤ 60 → j < 8 → W x (8 * (24 * b + c) + j) = V x (8 * (24 * b + c) + j) := fun x j h1 h2 hj => f x _ ⟨by omega, by omega⟩ (by
    have e : xR b1 x = (192 * b1, 192 * b1 + 192) := by
      unfold xR
      rw [if_neg (by omega), if_neg (by omega), if_neg (by omega), if_neg (by omega), if_neg (by omega), if_neg (by omega), if_neg (by omega), if_pos (by omega)]
    rw [e]
    show 8 * (24 * b + c) + j < 192 * b1 ∨ 192 * b1 + 192 ≤ 8 * (24 * b + c) + j
    omega)
  refine ⟨?_, ?_, n8, fun j hj => ?_⟩
  · have q := z.1
    unfold HDr at q ⊢
    rw [a 50 (by decide) (by decide), a 51 (by decide) (by decide), a 52 (by decide) (by decide), a 53 (by decide) (by decide), a 54 (by decide) (by decide), a 55 (by decide) (by decide)]
    exact q
  · rw [a 49 (by decide) (by decide)]
    exact z.2.1
  · have q := z.2.2.2 j hj
    unfold NEr at q ⊢
    rw [e 58 j (by decide) (by decide) (by omega), e 59 j (by decide) (by decide) (by omega), e 60 j (by decide) (by decide) (by omega)]
    exact q
theorem frX.se {V W : Vf} {b b1 i : Nat} (f : frX (xR b1) V W) (hb : b + b1 = 1) (hi : i < 12) : W 46 (12 * b + i) = V 46 (12 * b + i) := f 46 _ ⟨by decide, by decide⟩ (show 12 * b + i < 12 * b1 ∨ 12 * b1 + 12 ≤ 12 * b + i from by omega)
theorem frX.nm {V W : Vf} {b1 : Nat} (f : frX (xR b1) V W) : ∀ k, ¬ (5 * b1 ≤ k ∧ k < 5 * b1 + 5) → W 43 k = V 43 k := fun k hk => f 43 k ⟨by decide, by decide⟩ (show k < 5 * b1 ∨ 5 * b1 + 5 ≤ k from by omega)
theorem COM.row {V W U : Vf} {q nx : Nat} {s : St} (h : COM V q s) (ln : LNb s) (hq : q + nx = 1) (f : fr (tH nx) V W) (r : RoW 22 24 nx V U) (l : ∀ k, k < 48 → U 22 k = W 22 k) : COM W q s := fun c hc => by
  unfold LNb at ln
  have z := h c hc
  have e22 : W 22 (24 * q + c) = V 22 (24 * q + c) := (l _ (by omega)).symm.trans (r _ (by omega))
  have g21 : ∀ g, g < 24 → W 21 (24 * (24 * q + c) + g) = V 21 (24 * (24 * q + c) + g) := fun g hg => f 21 _ rfl (show _ < 576 * nx ∨ 576 * nx + 576 ≤ _ from by omega)
  have e23 : W 23 (24 * q + c) = V 23 (24 * q + c) := f 23 _ rfl (show 24 * q + c < 24 * nx ∨ 24 * nx + 24 ≤ 24 * q + c from by omega)
  have e24 : W 24 (24 * q + c) = V 24 (24 * q + c) := f 24 _ rfl (show 24 * q + c < 24 * nx ∨ 24 * nx + 24 ≤ 24 * q + c from by omega)
  have e25 : W 25 (24 * q + c) = V 25 (24 * q + c) := f 25 _ rfl (show 24 * q + c < 24 * nx ∨ 24 * nx + 24 ≤ 24 * q + c from by omega)
  have e26 : W 26 (24 * q + c) = V 26 (24 * q + c) := f 26 _ rfl (show 24 * q + c < 24 * nx ∨ 24 * nx + 24 ≤ 24 * q + c from by omega)
  have e27 : W 27 (24 * q + c) = V 27 (24 * q + c) := f 27 _ rfl (show 24 * q + c < 24 * nx ∨ 24 * nx + 24 ≤ 24 * q + c from by omega)
  have n8 := z.2.2.1
  refine ⟨?_, ?_, n8, fun j hj => ?_⟩
  · have y := z.1
    unfold HDn at y ⊢
    rw [e22, e23, e24, e25, e26]
    exact ⟨fun g hg => by rw [g21 g hg]; exact y.1 g hg, y.2⟩
  · rw [e27]
    exact z.2.1
  · have y := z.2.2.2 j hj
    have e28 : W 28 (8 * (24 * q + c) + j) = V 28 (8 * (24 * q + c) + j) := f 28 _ rfl (show 8 * (24 * q + c) + j < 192 * nx ∨ 192 * nx + 192 ≤ 8 * (24 * q + c) + j from by omega)
    have e29 : W 29 (8 * (24 * q + c) + j) = V 29 (8 * (24 * q + c) + j) := f 29 _ rfl (show 8 * (24 * q + c) + j < 192 * nx ∨ 192 * nx + 192 ≤ 8 * (24 * q + c) + j from by omega)
    have e30 : W 30 (8 * (24 * q + c) + j) = V 30 (8 * (24 * q + c) + j) := f 30 _ rfl (show 8 * (24 * q + c) + j < 192 * nx ∨ 192 * nx + 192 ≤ 8 * (24 * q + c) + j from by omega)
    have e31 : W 31 (8 * (24 * q + c) + j) = V 31 (8 * (24 * q + c) + j) := f 31 _ rfl (show 8 * (24 * q + c) + j < 192 * nx ∨ 192 * nx + 192 ≤ 8 * (24 * q + c) + j from by omega)
    unfold NEm at y ⊢
    rw [e28, e29, e30, e31]
    exact y
theorem fr.se {V W : Vf} {q nx i : Nat} (f : fr (tH nx) V W) (hq : q + nx = 1) (hi : i < 12) : W 18 (12 * q + i) = V 18 (12 * q + i) := f 18 _ rfl (show 12 * q + i < 12 * nx ∨ 12 * nx + 12 ≤ 12 * q + i from by omega)
def KEP (V : Vf) (b : Nat) (Vm : Vf) (q : Nat) (s : St) : Prop := LNb s ∧ WHs s ∧ COc V b s ∧ COM Vm q s ∧ SEQ V b Vm q (s.2.1 1).length ∧ (V 0 8).toInt = (Vm 0 54).toInt ∧ ((V 0 8).toInt = 1 → (CHK s.1 (svc V b (s.2.1 1).length) (s.2.1 2).length).1 = 0)
def LN5 (V : Vf) (L : Lf) (b : Nat) (Vm : Vf) (Lm : Lf) (q : Nat) : Prop := ∃ s : St, (TBc V L b s ∧ TBm Vm Lm q s (s.2.1 2) ∧ NKs s) ∧ KEP V b Vm q s
theorem SEQ.sv {V Vm : Vf} {b q n : Nat} (h : SEQ V b Vm q n) : svm Vm q n = svc V b n := by
  unfold svm svc
  funext i
  split
  · rw [h i ‹_›]
  · rfl
theorem KEP.mv {V V1 Vm Vm1 : Vf} {b q : Nat} {s : St} (h : KEP V b Vm q s) (r : V1 0 8 = V 0 8) (e46 : V1 46 = V 46) (e49 : V1 49 = V 49) (e50 : V1 50 = V 50) (e51 : V1 51 = V 51) (e52 : V1 52 = V 52) (e53 : V1 53 = V 53) (e54 : V1 54 = V 54) (e55 : V1 55 = V 55) (e58 : V1 58 = V 58) (e59 : V1 59 = V 59) (e60 : V1 60 = V 60) (rm : Vm1 0 54 = Vm 0 54) (f18 : Vm1 18 = Vm 18) (f21 : Vm1 21 = Vm 21) (f22 : Vm1 22 = Vm 22) (f23 : Vm1 23 = Vm 23) (f24 : Vm1 24 = Vm 24) (f25 : Vm1 25 = Vm 25) (f26 : Vm1 26 = Vm 26) (f27 : Vm1 27 = Vm 27) (f28 : Vm1 28 = Vm 28) (f29 : Vm1 29 = Vm 29) (f30 : Vm1 30 = Vm 30) (f31 : Vm1 31 = Vm 31) : KEP V1 b Vm1 q s := by
  obtain ⟨a, w, c, d, g, x, y⟩ := h
  refine ⟨a, w, COc.ag c e49 e50 e51 e52 e53 e54 e55 e58 e59 e60, COM.ag d f21 f22 f23 f24 f25 f26 f27 f28 f29 f30 f31, fun i hi => by rw [e46, f18]; exact g i hi, by rw [r, rm]; exact x, fun z => ?_⟩
  rw [r] at z
  rw [svc_fo rfl e46]
  exact y z
theorem LN5.mv {V V1 Vm Vm1 : Vf} {L L1 Lm Lm1 : Lf} {b q : Nat} (h : LN5 V L b Vm Lm q) (t : ∀ s, (TBc V L b s ∧ TBm Vm Lm q s (s.2.1 2) ∧ NKs s) → TBc V1 L1 b s ∧ TBm Vm1 Lm1 q s (s.2.1 2) ∧ NKs s) (k : ∀ s, KEP V b Vm q s → KEP V1 b Vm1 q s) : LN5 V1 L1 b Vm1 Lm1 q := by
  obtain ⟨s, a, d⟩ := h
  exact ⟨s, t s a, k s d⟩
/-- a BOOK that was read -/
theorem KEP.new {V V9 Vm Vm9 : Vf} {b q : Nat} {s : St} (c : CNc V9 b s) (m : CNm Vm9 q s) (w : WHs s) (hb : b < 2) (hq : q < 2) (l : LKd V V9) (n : LKn Vm Vm9) (r : (V 0 8).toInt = 0) (rm : (Vm 0 54).toInt = 0) : KEP V b Vm q s := by
  refine ⟨c.1, w, COc.lk c.2.2.2 c.1 hb l, COM.lk m.2.2.2 c.1 hq n, fun i hi => ?_, by omega, fun z => by omega⟩
  have l1 := c.1
  unfold LNb at l1
  have e1 := c.2.1 i hi
  have e2 := m.2.1 i hi
  rw [← l.1 b i hb (by omega), ← n.1 (12 * q + i) (by omega)]
  exact Int32.toInt_inj.mp (e1.trans e2.symm)
/-- a BOOK that was refused -/
theorem KEP.old {V V8 V1 Vm Vm1 : Vf} {b b1 q nx : Nat} {s : St} (h : KEP V b Vm q s) (hb : b + b1 = 1) (hq : q + nx = 1) (f : frX (xR b1) V V8) (l : LKd V1 V8) (e8 : (V8 0 8).toInt = (V 0 8).toInt) (g : fr (tH nx) Vm Vm1) (r : RoW 22 24 nx Vm Vm1) (e54 : Vm1 0 54 = Vm 0 54) : KEP V1 b Vm1 q s := by
  obtain ⟨a, w, c, d, se, x, y⟩ := h
  have a' := a
  unfold LNb at a'
  have s46 : ∀ i, i < 12 → V1 46 (12 * b + i) = V 46 (12 * b + i) := fun i hi => (l.1 b i (by omega) hi).symm.trans (f.se hb hi)
  have r8 : (V1 0 8).toInt = (V 0 8).toInt := by rw [← l.2.2.2]; exact e8
  refine ⟨a, w, COc.lk (COc.row c a hb f) a (by omega) l, COM.row d a hq g r (fun k hk => rfl), fun i hi => ?_, by rw [r8, e54]; exact x, fun z => ?_⟩
  · rw [s46 i (by omega), g.se hq (by omega)]
    exact se i hi
  · rw [r8] at z
    have e : svc V1 b (s.2.1 1).length = svc V b (s.2.1 1).length := by
      unfold svc
      funext i
      split
      · rw [s46 i (by omega)]
      · rfl
    rw [e]
    exact y z
/-- a setting that was set on both sides, or on neither -/
theorem KEP.set {V V1 Vm Vm1 U : Vf} {b q k : Nat} {v : Int32} {s : St} (h : KEP V b Vm q s) (hq : q < 2) (r : V1 0 8 = V 0 8) (e49 : V1 49 = V 49) (e50 : V1 50 = V 50) (e51 : V1 51 = V 51) (e52 : V1 52 = V 52) (e53 : V1 53 = V 53) (e54 : V1 54 = V 54) (e55 : V1 55 = V 55) (e58 : V1 58 = V 58) (e59 : V1 59 = V 59) (e60 : V1 60 = V 60) (rm : Vm1 0 54 = Vm 0 54) (f21 : Vm1 21 = Vm 21) (f22 : Vm1 22 = Vm 22) (f23 : Vm1 23 = Vm 23) (f24 : Vm1 24 = Vm 24) (f25 : Vm1 25 = Vm 25) (f26 : Vm1 26 = Vm 26) (f27 : Vm1 27 = Vm 27) (f28 : Vm1 28 = Vm 28) (f29 : Vm1 29 = Vm 29) (f30 : Vm1 30 = Vm 30) (f31 : Vm1 31 = Vm 31) (hr : (V 0 8).toInt = 0) (c1 : V1 46 (12 * b + k) = v) (c2 : ∀ i, i ≠ 12 * b + k → V1 46 i = V 46 i) (m1 : U 18 (12 * q + k) = v) (m2 : ∀ i, i ≠ 12 * q + k → U 18 i = Vm 18 i) (l : LKn Vm1 U) : KEP V1 b Vm1 q s := by
  obtain ⟨a, w, c, d, g, x, y⟩ := h
  refine ⟨a, w, COc.ag c e49 e50 e51 e52 e53 e54 e55 e58 e59 e60, COM.ag d f21 f22 f23 f24 f25 f26 f27 f28 f29 f30 f31, fun i hi => ?_, by rw [r, rm]; exact x, fun z => by rw [r] at z; omega⟩
  unfold LNb at a
  rw [← l.1 _ (by omega)]
  by_cases e : i = k
  · subst e
    rw [c1, m1]
  · rw [c2 _ (by omega), m2 _ (by omega)]
    exact g i hi
theorem KEP.same {V V1 Vm Vm1 U : Vf} {b q : Nat} {s : St} (h : KEP V b Vm q s) (hq : q < 2) (r : V1 0 8 = V 0 8) (e46 : V1 46 = V 46) (e49 : V1 49 = V 49) (e50 : V1 50 = V 50) (e51 : V1 51 = V 51) (e52 : V1 52 = V 52) (e53 : V1 53 = V 53) (e54 : V1 54 = V 54) (e55 : V1 55 = V 55) (e58 : V1 58 = V 58) (e59 : V1 59 = V 59) (e60 : V1 60 = V 60) (rm : Vm1 0 54 = Vm 0 54) (u18 : U 18 = Vm 18) (f21 : Vm1 21 = Vm 21) (f22 : Vm1 22 = Vm 22) (f23 : Vm1 23 = Vm 23) (f24 : Vm1 24 = Vm 24) (f25 : Vm1 25 = Vm 25) (f26 : Vm1 26 = Vm 26) (f27 : Vm1 27 = Vm 27) (f28 : Vm1 28 = Vm 28) (f29 : Vm1 29 = Vm 29) (f30 : Vm1 30 = Vm 30) (f31 : Vm1 31 = Vm 31) (l : LKn Vm1 U) : KEP V1 b Vm1 q s := by
  obtain ⟨a, w, c, d, g, x, y⟩ := h
  refine ⟨a, w, COc.ag c e49 e50 e51 e52 e53 e54 e55 e58 e59 e60, COM.ag d f21 f22 f23 f24 f25 f26 f27 f28 f29 f30 f31, fun i hi => ?_, by rw [r, rm]; exact x, fun z => by rw [r] at z; rw [svc_fo rfl e46]; exact y z⟩
  unfold LNb at a
  rw [← l.1 _ (by omega), e46, u18]
  exact g i hi
/-- check(): both answer alike -/
theorem KEP.chk {V V1 Vm Vm1 U : Vf} {b q : Nat} {s : St} {x y : Int} (h : KEP V b Vm q s) (e46 : V1 46 = V 46) (e49 : V1 49 = V 49) (e50 : V1 50 = V 50) (e51 : V1 51 = V 51) (e52 : V1 52 = V 52) (e53 : V1 53 = V 53) (e54 : V1 54 = V 54) (e55 : V1 55 = V 55) (e58 : V1 58 = V 58) (e59 : V1 59 = V 59) (e60 : V1 60 = V 60) (f18 : Vm1 18 = Vm 18) (f21 : Vm1 21 = Vm 21) (f22 : Vm1 22 = Vm 22) (f23 : Vm1 23 = Vm 23) (f24 : Vm1 24 = Vm 24) (f25 : Vm1 25 = Vm 25) (f26 : Vm1 26 = Vm 26) (f27 : Vm1 27 = Vm 27) (f28 : Vm1 28 = Vm 28) (f29 : Vm1 29 = Vm 29) (f30 : Vm1 30 = Vm 30) (f31 : Vm1 31 = Vm 31) (l : LKn Vm1 U) (hx : x = (((CHK s.1 (svc V b (s.2.1 1).length) (s.2.1 2).length).1 : Nat) : Int)) (hy : y = (((CHK s.1 (svc V b (s.2.1 1).length) (s.2.1 2).length).1 : Nat) : Int)) (rx : ((V1 0 8).toInt = 1 ∧ x = 0) ∨ ((V1 0 8).toInt = 0 ∧ x ≠ 0)) (ry : ((U 0 54).toInt = 1 ∧ ((Vm 0 54).toInt = 1 ∨ y = 0)) ∨ ((U 0 54).toInt = 0 ∧ (Vm 0 54).toInt = 0 ∧ y ≠ 0)) : KEP V1 b Vm1 q s := by
  obtain ⟨a, w, c, d, g, z, o⟩ := h
  have u54 : (Vm1 0 54).toInt = (U 0 54).toInt := congrArg Int32.toInt l.2.2.2.2.symm
  refine ⟨a, w, COc.ag c e49 e50 e51 e52 e53 e54 e55 e58 e59 e60, COM.ag d f21 f22 f23 f24 f25 f26 f27 f28 f29 f30 f31, fun i hi => by rw [e46, f18]; exact g i hi, ?_, fun q9 => ?_⟩
  · rw [u54]
    rcases ry with ⟨r1, r2 | r2⟩ | r1
    · have o1 := o (by omega)
      omega
    · omega
    · omega
  · rw [svc_fo rfl e46]
    omega
theorem KEP.z {V Vm : Vf} {b q : Nat} (r : V 0 8 = 0) (rm : Vm 0 54 = 0) : KEP V b Vm q St0 := by
  refine ⟨⟨Nat.zero_le _, Nat.zero_le _, Nat.zero_le _⟩, fun c hc => absurd hc (Nat.not_lt_zero _), fun c hc => absurd hc (Nat.not_lt_zero _), fun c hc => absurd hc (Nat.not_lt_zero _), fun i hi => absurd hi (Nat.not_lt_zero _), by rw [r, rm], fun z => ?_⟩
  rw [r] at z
  exact absurd z (by decide)
end
section
/-! what is told of the faults -/
def flF (F : FSt) (i w : Int) : Int := if 0 ≤ i ∧ i < ((F.1 : Nat) : Int) ∧ i < 100 ∧ 0 ≤ w ∧ w < 3 then ((F.2 i.toNat w.toNat : Nat) : Int) else -1
theorem flF_n {F : FSt} {i w : Int} (h : ¬ (0 ≤ i ∧ i < ((F.1 : Nat) : Int) ∧ i < 100 ∧ 0 ≤ w ∧ w < 3)) : flF F i w = -1 := if_neg h
theorem flF_y {F : FSt} {i w : Int} {k j : Nat} (hi : i = (k : Int)) (hw : w = (j : Int)) (h : k < F.1) (h1 : k < 100) (h2 : j < 3) : flF F i w = ((F.2 k j : Nat) : Int) := by
  subst hi hw
  unfold flF
  rw [if_pos ⟨by omega, by omega, by omega, by omega, by omega⟩]
  rfl
def cyF (F : FSt) (i k : Int) : Int := if 0 ≤ i ∧ i < ((F.1 : Nat) : Int) ∧ i < 100 ∧ F.2 i.toNat 0 = 3 ∧ 0 ≤ k ∧ k < ((F.2 i.toNat 2 : Nat) : Int) then ((F.2 i.toNat (3 + k.toNat) : Nat) : Int) else -1
theorem cyF_n {F : FSt} {i k : Int} (h : ¬ (0 ≤ i ∧ i < ((F.1 : Nat) : Int) ∧ i < 100 ∧ F.2 i.toNat 0 = 3 ∧ 0 ≤ k ∧ k < ((F.2 i.toNat 2 : Nat) : Int))) : cyF F i k = -1 := if_neg h
theorem cyF_y {F : FSt} {i k : Int} {a b : Nat} (hi : i = (a : Int)) (hk : k = (b : Int)) (h : a < F.1) (h1 : a < 100) (h3 : F.2 a 0 = 3) (h2 : b < F.2 a 2) : cyF F i k = ((F.2 a (3 + b) : Nat) : Int) := by
  subst hi hk
  unfold cyF
  rw [if_pos ⟨by omega, by omega, by omega, h3, by omega, (show ((b : Nat) : Int) < ((F.2 a 2 : Nat) : Int) from by omega)⟩]
  rfl


abbrev r_x_tells7 : Room := { frames := 0, cells := 0, slots := 0, locals := 0 }
abbrev q_x_tells7 (D : va_G) (ks : KS) (ad : Nat → Nat) (kk : Nat → ClassId) (V : Vf) (L : Lf) (Z : XZ) (p0 : Int32) (gF : FSt) (A : Nat → Prop) : Array Value → State → Outcome → State → Prop := va_Qi (fun (r : Int32) (_ : Unit) => (0 ≤ r.toInt ∧ r.toInt ≤ 1) ∧ (((r.toInt = 1 ∧ 0 ≤ p0.toInt ∧ p0.toInt < ((gF.1 : Nat) : Int) ∧ p0.toInt ≤ 99) ∨ (r.toInt = 0 ∧ (p0.toInt < 0 ∨ ((gF.1 : Nat) : Int) ≤ p0.toInt ∨ 100 ≤ p0.toInt))))) (fun _ t => gq D A (xw ad kk V L Z) (xty kk Z) t) A
set_option maxHeartbeats 4000000 in
set_option maxRecDepth 100000 in
theorem x_tells7 (l : Launch) (D : va_G) (ks : KS) (sz : Nat) (ad : Nat → Nat) (kk : Nat → ClassId) (V : Vf) (L : Lf) (Z : XZ) (p0 : Int32) (gF : FSt) (hMV : rgd bX V) (flq : FLc V gF)  : Met l yX2_tells (Cond.code yX2_tells cX2_tells 2 (some .boolean) :: GW) r_x_tells7 (va_Pc [.ref (ad 2), .int p0] (gp D ks (xw ad kk V L Z) (xty kk Z) sz)) (q_x_tells7 D ks ad kk V L Z p0 gF (va_A (xw ad kk V L Z) sz)) 0 0 (va_A (xw ad kk V L Z) sz) := by
  refine g_met (q_x_tells7 D ks ad kk V L Z p0 gF) (by decide) (Nat.le_of_ble_eq_true rfl) ?_
  intro p e s m below meth c A ls H locs hx hb hr hml hown hg hlocks hin hnw hgk hP hK hD hS hA hl
  have hown : s.vm.findClass RX2 = some m.cls := hown
  have hl : lv_has ls 2 [(0, .ref (ad 2)), (1, .int p0)] := hl
  have hP : va_P D vwCl (xw ad kk V L Z) H := hP
  have hD : va_D A (xw ad kk V L Z) := hD
  have hK : va_K D vwCl (xty kk Z) s := hK
  have fn0 := flq.n
  refine lv_iload_n hx hb dX2_tells_0 rfl (lv_at hl 1 rfl) ?_
  refine lv_if_lt (tgt := 22) hx hb dX2_tells_1 (by decide) (fun c1 => ?_) (fun c1 => ?_)
  · skip
    have f2 : p0.toInt < 0 := b_lt rfl (by decide) c1
    refine lv_iconst (v := 0) hx hb dX2_tells_22 (by decide) ?_
    exact W.zret (v := 0) hx hb hr rfl (fun t ht hW => ⟨⟨0, (), rfl, ⟨(by decide), (show ((0 = 1 ∧ 0 ≤ p0.toInt ∧ p0.toInt < ((gF.1 : Nat) : Int) ∧ p0.toInt ≤ 99) ∨ (0 = 0 ∧ (p0.toInt < 0 ∨ ((gF.1 : Nat) : Int) ≤ p0.toInt ∨ 100 ≤ p0.toInt))) from by first | omega | ((try (have i_flq := Imp.go flq (by omega))); omega))⟩, by rw [ht]; exact hP, va_K.moved hW.alike hK, hD⟩, hS.F ht⟩) hS.2.2 dX2_tells_23
  · skip
    have f3 : 0 ≤ p0.toInt := b_nlt rfl (by decide) c1
    refine lv_iload_n hx hb dX2_tells_4 rfl (lv_at hl 1 rfl) ?_
    refine lv_aload_n hx hb dX2_tells_5 rfl (lv_at hl 0 rfl) ?_
    refine va_get (D := D) (ci := 2) (v := .int (V 2 7)) (fs := (xfChecker ad V L Z)) (C := RX2) (T := TX2) (N := 8) hx hb hg inX2 hown hK hP 2 xgChecker rfl 7 (by decide) (hg _ w345) (fun _ h9 => h9) rfl dX2_tells_6 ?_
    have r4 : 0 ≤ ((V 2 7)).toInt ∧ ((V 2 7)).toInt ≤ 1000000 := hMV 2 7
    refine lv_icmp_ge (tgt := 22) hx hb dX2_tells_9 (by decide) (fun c5 => ?_) (fun c5 => ?_)
    · skip
      have f6 : ((V 2 7)).toInt ≤ p0.toInt := b_le rfl rfl c5
      refine lv_iconst (v := 0) hx hb dX2_tells_22 (by decide) ?_
      exact W.zret (v := 0) hx hb hr rfl (fun t ht hW => ⟨⟨0, (), rfl, ⟨(by decide), (show ((0 = 1 ∧ 0 ≤ p0.toInt ∧ p0.toInt < ((gF.1 : Nat) : Int) ∧ p0.toInt ≤ 99) ∨ (0 = 0 ∧ (p0.toInt < 0 ∨ ((gF.1 : Nat) : Int) ≤ p0.toInt ∨ 100 ≤ p0.toInt))) from by first | omega | ((try (have i_flq := Imp.go flq (by omega))); omega))⟩, by rw [ht]; exact hP, va_K.moved hW.alike hK, hD⟩, hS.F ht⟩) hS.2.2 dX2_tells_23
    · skip
      have f7 : p0.toInt < ((V 2 7)).toInt := b_nle rfl rfl c5
      refine lv_iload_n hx hb dX2_tells_12 rfl (lv_at hl 1 rfl) ?_
      refine lv_bipush (v := 100) hx hb dX2_tells_13 (by decide) ?_
      refine lv_icmp_ge (tgt := 22) hx hb dX2_tells_15 (by decide) (fun c8 => ?_) (fun c8 => ?_)
      · skip
        have f9 : 100 ≤ p0.toInt := b_le (by decide) rfl c8
        refine lv_iconst (v := 0) hx hb dX2_tells_22 (by decide) ?_
        exact W.zret (v := 0) hx hb hr rfl (fun t ht hW => ⟨⟨0, (), rfl, ⟨(by decide), (show ((0 = 1 ∧ 0 ≤ p0.toInt ∧ p0.toInt < ((gF.1 : Nat) : Int) ∧ p0.toInt ≤ 99) ∨ (0 = 0 ∧ (p0.toInt < 0 ∨ ((gF.1 : Nat) : Int) ≤ p0.toInt ∨ 100 ≤ p0.toInt))) from by first | omega | ((try (have i_flq := Imp.go flq (by omega))); omega))⟩, by rw [ht]; exact hP, va_K.moved hW.alike hK, hD⟩, hS.F ht⟩) hS.2.2 dX2_tells_23
      · skip
        have f10 : p0.toInt < 100 := b_nle (by decide) rfl c8
        refine lv_iconst (v := 1) hx hb dX2_tells_18 (by decide) ?_
        refine lv_goto (tgt := 23) hx hb dX2_tells_19 (by decide) ?_
        exact W.zret (v := 1) hx hb hr rfl (fun t ht hW => ⟨⟨1, (), rfl, ⟨(by decide), (show ((1 = 1 ∧ 0 ≤ p0.toInt ∧ p0.toInt < ((gF.1 : Nat) : Int) ∧ p0.toInt ≤ 99) ∨ (1 = 0 ∧ (p0.toInt < 0 ∨ ((gF.1 : Nat) : Int) ≤ p0.toInt ∨ 100 ≤ p0.toInt))) from by first | omega | ((try (have i_flq := Imp.go flq (by omega))); omega))⟩, by rw [ht]; exact hP, va_K.moved hW.alike hK, hD⟩, hS.F ht⟩) hS.2.2 dX2_tells_23
abbrev r_x_tell7 : Room := { frames := 1, cells := 0, slots := 0, locals := 21 }
abbrev q_x_tell7 (D : va_G) (ks : KS) (ad : Nat → Nat) (kk : Nat → ClassId) (V : Vf) (L : Lf) (Z : XZ) (p0 : Int32) (p1 : Int32) (gF : FSt) (A : Nat → Prop) : Array Value → State → Outcome → State → Prop := va_Qi (fun (r : Int32) (_ : Unit) => (r.toInt = flF gF p0.toInt p1.toInt)) (fun _ t => gq D A (xw ad kk V L Z) (xty kk Z) t) A
set_option maxHeartbeats 4000000 in
set_option maxRecDepth 100000 in
theorem x_tell7 (l : Launch) (D : va_G) (ks : KS) (sz : Nat) (ad : Nat → Nat) (kk : Nat → ClassId) (V : Vf) (L : Lf) (Z : XZ) (p0 : Int32) (p1 : Int32) (gF : FSt) (hMV : rgd bX V) (flq : FLc V gF)  : Met l yX2_tell (Cond.code yX2_tell cX2_tell 3 (some .int) :: GW) r_x_tell7 (va_Pc [.ref (ad 2), .int p0, .int p1] (gp D ks (xw ad kk V L Z) (xty kk Z) sz)) (q_x_tell7 D ks ad kk V L Z p0 p1 gF (va_A (xw ad kk V L Z) sz)) 0 0 (va_A (xw ad kk V L Z) sz) := by
  refine g_met (q_x_tell7 D ks ad kk V L Z p0 p1 gF) (by decide) (Nat.le_of_ble_eq_true rfl) ?_
  intro p e s m below meth c A ls H locs hx hb hr hml hown hg hlocks hin hnw hgk hP hK hD hS hA hl
  have hown : s.vm.findClass RX2 = some m.cls := hown
  have hl : lv_has ls 3 [(0, .ref (ad 2)), (1, .int p0), (2, .int p1)] := hl
  have hP : va_P D vwCl (xw ad kk V L Z) H := hP
  have hD : va_D A (xw ad kk V L Z) := hD
  have hK : va_K D vwCl (xty kk Z) s := hK
  have fn0 := flq.n
  refine lv_aload_n hx hb dX2_tell_0 rfl (lv_at hl 0 rfl) ?_
  refine lv_iload_n hx hb dX2_tell_1 rfl (lv_at hl 1 rfl) ?_
  refine gA_int (gA_runV (As := [.int p0]) (rest := []) (ci := 2) (q0 := 2) hx hb hml hown hg hP hD hK hS hA hnw hgk (x_tells7 l D ks H.size ad kk V L Z p0 (gF) hMV flq) w1121 w1123 w41 w163 w1124 rfl xgChecker hdV_yX2_tells ⟨Nat.le_of_ble_eq_true rfl, Nat.le_of_ble_eq_true rfl⟩ rfl hl.1 rfl (Nat.le_of_ble_eq_true rfl) dX2_tell_2 ⟨Nat.le_of_ble_eq_true rfl, Nat.le_of_ble_eq_true rfl⟩) hP hD hK hS hA (fun z1 u2 H locs w3 hP hD hK hS => ?_)
  obtain ⟨rgz1, t4⟩ := w3
  have rgz1 : 0 ≤ z1.toInt ∧ z1.toInt ≤ 1 := rgz1
  have t4 : ((z1.toInt = 1 ∧ 0 ≤ p0.toInt ∧ p0.toInt < ((gF.1 : Nat) : Int) ∧ p0.toInt ≤ 99) ∨ (z1.toInt = 0 ∧ (p0.toInt < 0 ∨ ((gF.1 : Nat) : Int) ≤ p0.toInt ∨ 100 ≤ p0.toInt))) := t4
  refine lv_if_ne (tgt := 10) hx hb dX2_tell_5 (by decide) (fun c5 => ?_) (fun c5 => ?_)
  · skip
    have f6 : z1.toInt ≠ 0 := b_neq rfl (by decide) c5
    have kk9 := i_clamp (x := p0) rfl (by (first | exact om_f8a04f114014 t4 f6 | omega))
    have fk9 := flq.1.2 (Int32.toNatClampNeg p0) (by omega) (by omega)
    refine lv_iload_n hx hb dX2_tell_10 rfl (lv_at hl 2 rfl) ?_
    by_cases q7 : p1 = 0
    · refine g_top (v := 0) q7 ?_
      have fq7 : p1.toInt = 0 := b_eq rfl (by decide) q7
      refine lv_tableIn (x := 0) (off := 25) (tgt := 36) hx hb dX2_tell_11 (by decide) (by decide) (by decide) (by decide) ?_
      refine lv_aload_n hx hb dX2_tell_36 rfl (lv_at hl 0 rfl) ?_
      refine va_get (D := D) (ci := 2) (v := .ref (ad 12)) (fs := (xfChecker ad V L Z)) (C := RX2) (T := TX2) (N := 8) hx hb hg inX2 hown hK hP 2 xgChecker rfl 0 (by decide) (hg _ w338) (fun _ h9 => h9) rfl dX2_tell_37 ?_
      refine lv_iload_n hx hb dX2_tell_40 rfl (lv_at hl 1 rfl) ?_
      refine va_iald (D := D) (i := p0) hx hb hK hP 12 5 rfl rfl (i_in (a := p0.toInt) rfl (by first | exact om_c6bee26a01dc t4 f6 | first | omega | ((try (have i_flq := Imp.go flq (by omega))); omega))) dX2_tell_41 ?_
      exact W.iret (v := (V 15 (Int32.toNatClampNeg p0))) hx hb hr (fun t ht hW => ⟨⟨(V 15 (Int32.toNatClampNeg p0)), (), rfl, (by rw [flF_y (k := Int32.toNatClampNeg p0) (j := 0) (by omega) (by omega) (by omega) (by omega) (by decide)]; exact fk9.1), by rw [ht]; exact hP, va_K.moved hW.alike hK, hD⟩, hS.F ht⟩) hS.2.2 dX2_tell_42
    by_cases q8 : p1 = 1
    · refine g_top (v := 1) q8 ?_
      have fq8 : p1.toInt = 1 := b_eq rfl (by decide) q8
      refine lv_tableIn (x := 1) (off := 32) (tgt := 43) hx hb dX2_tell_11 (by decide) (by decide) (by decide) (by decide) ?_
      refine lv_aload_n hx hb dX2_tell_43 rfl (lv_at hl 0 rfl) ?_
      refine va_get (D := D) (ci := 2) (v := .ref (ad 13)) (fs := (xfChecker ad V L Z)) (C := RX2) (T := TX2) (N := 8) hx hb hg inX2 hown hK hP 2 xgChecker rfl 1 (by decide) (hg _ w339) (fun _ h9 => h9) rfl dX2_tell_44 ?_
      refine lv_iload_n hx hb dX2_tell_47 rfl (lv_at hl 1 rfl) ?_
      refine va_iald (D := D) (i := p0) hx hb hK hP 13 6 rfl rfl (i_in (a := p0.toInt) rfl (by first | exact om_c6bee26a01dc t4 f6 | first | omega | ((try (have i_flq := Imp.go flq (by omega))); omega))) dX2_tell_48 ?_
      exact W.iret (v := (V 16 (Int32.toNatClampNeg p0))) hx hb hr (fun t ht hW => ⟨⟨(V 16 (Int32.toNatClampNeg p0)), (), rfl, (by rw [flF_y (k := Int32.toNatClampNeg p0) (j := 1) (by omega) (by omega) (by omega) (by omega) (by decide)]; exact fk9.2.1), by rw [ht]; exact hP, va_K.moved hW.alike hK, hD⟩, hS.F ht⟩) hS.2.2 dX2_tell_49
    by_cases q9 : p1 = 2
    · refine g_top (v := 2) q9 ?_
      have fq9 : p1.toInt = 2 := b_eq rfl (by decide) q9
      refine lv_tableIn (x := 2) (off := 39) (tgt := 50) hx hb dX2_tell_11 (by decide) (by decide) (by decide) (by decide) ?_
      refine lv_aload_n hx hb dX2_tell_50 rfl (lv_at hl 0 rfl) ?_
      refine va_get (D := D) (ci := 2) (v := .ref (ad 14)) (fs := (xfChecker ad V L Z)) (C := RX2) (T := TX2) (N := 8) hx hb hg inX2 hown hK hP 2 xgChecker rfl 2 (by decide) (hg _ w340) (fun _ h9 => h9) rfl dX2_tell_51 ?_
      refine lv_iload_n hx hb dX2_tell_54 rfl (lv_at hl 1 rfl) ?_
      refine va_iald (D := D) (i := p0) hx hb hK hP 14 7 rfl rfl (i_in (a := p0.toInt) rfl (by first | exact om_c6bee26a01dc t4 f6 | first | omega | ((try (have i_flq := Imp.go flq (by omega))); omega))) dX2_tell_55 ?_
      have r10 : (-100) ≤ ((V 17 (Int32.toNatClampNeg p0))).toInt ∧ ((V 17 (Int32.toNatClampNeg p0))).toInt ≤ 24 := hMV 17 (Int32.toNatClampNeg p0)
      exact W.iret (v := (V 17 (Int32.toNatClampNeg p0))) hx hb hr (fun t ht hW => ⟨⟨(V 17 (Int32.toNatClampNeg p0)), (), rfl, (by rw [flF_y (k := Int32.toNatClampNeg p0) (j := 2) (by omega) (by omega) (by omega) (by omega) (by decide)]; exact fk9.2.2.1), by rw [ht]; exact hP, va_K.moved hW.alike hK, hD⟩, hS.F ht⟩) hS.2.2 dX2_tell_56
    refine lv_tableOut (x := p1) (tgt := 57) hx hb dX2_tell_11 (tab_out p1 2 (by decide) (fun k hk => match k, hk with | 0, _ => q7 | 1, _ => q8 | 2, _ => q9 | k + 3, hk => absurd hk (by omega))) (by decide) ?_
    have gd11 : p1.toInt ≠ 0 := fun h9 => q7 (Int32.toInt_inj.mp (h9.trans (by decide)))
    have gd12 : p1.toInt ≠ 1 := fun h9 => q8 (Int32.toInt_inj.mp (h9.trans (by decide)))
    have gd13 : p1.toInt ≠ 2 := fun h9 => q9 (Int32.toInt_inj.mp (h9.trans (by decide)))
    refine lv_iconst (v := (-1)) hx hb dX2_tell_57 (by decide) ?_
    exact W.iret (v := (-1)) hx hb hr (fun t ht hW => ⟨⟨(-1), (), rfl, (by rw [flF_n (by omega)]; decide), by rw [ht]; exact hP, va_K.moved hW.alike hK, hD⟩, hS.F ht⟩) hS.2.2 dX2_tell_58
  · skip
    have f14 : z1.toInt = 0 := b_eq rfl (by decide) c5
    refine lv_iconst (v := (-1)) hx hb dX2_tell_8 (by decide) ?_
    exact W.iret (v := (-1)) hx hb hr (fun t ht hW => ⟨⟨(-1), (), rfl, (by rw [flF_n (by omega)]; decide), by rw [ht]; exact hP, va_K.moved hW.alike hK, hD⟩, hS.F ht⟩) hS.2.2 dX2_tell_9
abbrev r_x_onRing7 : Room := { frames := 1, cells := 0, slots := 0, locals := 21 }
abbrev q_x_onRing7 (D : va_G) (ks : KS) (ad : Nat → Nat) (kk : Nat → ClassId) (V : Vf) (L : Lf) (Z : XZ) (p0 : Int32) (p1 : Int32) (gF : FSt) (A : Nat → Prop) : Array Value → State → Outcome → State → Prop := va_Qi (fun (r : Int32) (_ : Unit) => (r.toInt = cyF gF p0.toInt p1.toInt)) (fun _ t => gq D A (xw ad kk V L Z) (xty kk Z) t) A
set_option maxHeartbeats 4000000 in
set_option maxRecDepth 100000 in
theorem x_onRing7 (l : Launch) (D : va_G) (ks : KS) (sz : Nat) (ad : Nat → Nat) (kk : Nat → ClassId) (V : Vf) (L : Lf) (Z : XZ) (p0 : Int32) (p1 : Int32) (gF : FSt) (hMV : rgd bX V) (flq : FLc V gF)  : Met l yX2_onRing (Cond.code yX2_onRing cX2_onRing 4 (some .int) :: GW) r_x_onRing7 (va_Pc [.ref (ad 2), .int p0, .int p1] (gp D ks (xw ad kk V L Z) (xty kk Z) sz)) (q_x_onRing7 D ks ad kk V L Z p0 p1 gF (va_A (xw ad kk V L Z) sz)) 0 0 (va_A (xw ad kk V L Z) sz) := by
  refine g_met (q_x_onRing7 D ks ad kk V L Z p0 p1 gF) (by decide) (Nat.le_of_ble_eq_true rfl) ?_
  intro p e s m below meth c A ls H locs hx hb hr hml hown hg hlocks hin hnw hgk hP hK hD hS hA hl
  have hown : s.vm.findClass RX2 = some m.cls := hown
  have hl : lv_has ls 4 [(0, .ref (ad 2)), (1, .int p0), (2, .int p1)] := hl
  have hP : va_P D vwCl (xw ad kk V L Z) H := hP
  have hD : va_D A (xw ad kk V L Z) := hD
  have hK : va_K D vwCl (xty kk Z) s := hK
  have fn0 := flq.n
  refine lv_aload_n hx hb dX2_onRing_0 rfl (lv_at hl 0 rfl) ?_
  refine lv_iload_n hx hb dX2_onRing_1 rfl (lv_at hl 1 rfl) ?_
  refine gA_int (gA_runV (As := [.int p0]) (rest := []) (ci := 2) (q0 := 2) hx hb hml hown hg hP hD hK hS hA hnw hgk (x_tells7 l D ks H.size ad kk V L Z p0 (gF) hMV flq) w1121 w1123 w41 w163 w1124 rfl xgChecker hdV_yX2_tells ⟨Nat.le_of_ble_eq_true rfl, Nat.le_of_ble_eq_true rfl⟩ rfl hl.1 rfl (Nat.le_of_ble_eq_true rfl) dX2_onRing_2 ⟨Nat.le_of_ble_eq_true rfl, Nat.le_of_ble_eq_true rfl⟩) hP hD hK hS hA (fun z1 u2 H locs w3 hP hD hK hS => ?_)
  obtain ⟨rgz1, t4⟩ := w3
  have rgz1 : 0 ≤ z1.toInt ∧ z1.toInt ≤ 1 := rgz1
  have t4 : ((z1.toInt = 1 ∧ 0 ≤ p0.toInt ∧ p0.toInt < ((gF.1 : Nat) : Int) ∧ p0.toInt ≤ 99) ∨ (z1.toInt = 0 ∧ (p0.toInt < 0 ∨ ((gF.1 : Nat) : Int) ≤ p0.toInt ∨ 100 ≤ p0.toInt))) := t4
  refine lv_if_eq (tgt := 22) hx hb dX2_onRing_5 (by decide) (fun c5 => ?_) (fun c5 => ?_)
  · skip
    have f6 : z1.toInt = 0 := b_eq rfl (by decide) c5
    refine lv_iconst (v := 0) hx hb dX2_onRing_22 (by decide) ?_
    refine lv_istore_n (lv' := [(3, .int 0), (0, .ref (ad 2)), (1, .int p0), (2, .int p1)]) hx hb dX2_onRing_23 rfl hl (by decide) rfl (fun ls hl => ?_)
    refine lv_iload_n hx hb dX2_onRing_24 rfl (lv_at hl 0 rfl) ?_
    refine lv_if_eq (tgt := 56) hx hb dX2_onRing_25 (by decide) (fun _ => ?_) (fun q => absurd (by decide) q)
    refine lv_iconst (v := (-1)) hx hb dX2_onRing_56 (by decide) ?_
    exact W.iret (v := (-1)) hx hb hr (fun t ht hW => ⟨⟨(-1), (), rfl, (by rw [cyF_n (by omega)]; decide), by rw [ht]; exact hP, va_K.moved hW.alike hK, hD⟩, hS.F ht⟩) hS.2.2 dX2_onRing_57
  · skip
    have f7 : z1.toInt ≠ 0 := b_neq rfl (by decide) c5
    have kk9 := i_clamp (x := p0) rfl (by (first | exact om_f8a04f114014 t4 f7 | omega))
    have fk9 := flq.1.2 (Int32.toNatClampNeg p0) (by omega) (by omega)
    have fe9 : p0.toInt.toNat = Int32.toNatClampNeg p0 := rfl
    refine lv_aload_n hx hb dX2_onRing_8 rfl (lv_at hl 0 rfl) ?_
    refine va_get (D := D) (ci := 2) (v := .ref (ad 12)) (fs := (xfChecker ad V L Z)) (C := RX2) (T := TX2) (N := 8) hx hb hg inX2 hown hK hP 2 xgChecker rfl 0 (by decide) (hg _ w338) (fun _ h9 => h9) rfl dX2_onRing_9 ?_
    refine lv_iload_n hx hb dX2_onRing_12 rfl (lv_at hl 1 rfl) ?_
    refine va_iald (D := D) (i := p0) hx hb hK hP 12 5 rfl rfl (i_in (a := p0.toInt) rfl (by first | exact om_c6bee26a01dc t4 f7 | first | omega | ((try (have i_flq := Imp.go flq (by omega))); omega))) dX2_onRing_13 ?_
    refine lv_iconst (v := 3) hx hb dX2_onRing_14 (by decide) ?_
    refine lv_icmp_ne (tgt := 22) hx hb dX2_onRing_15 (by decide) (fun c8 => ?_) (fun c8 => ?_)
    · skip
      have f9 : ((V 15 (Int32.toNatClampNeg p0))).toInt ≠ 3 := b_neq rfl (by decide) c8
      refine lv_iconst (v := 0) hx hb dX2_onRing_22 (by decide) ?_
      refine lv_istore_n (lv' := [(3, .int 0), (0, .ref (ad 2)), (1, .int p0), (2, .int p1)]) hx hb dX2_onRing_23 rfl hl (by decide) rfl (fun ls hl => ?_)
      refine lv_iload_n hx hb dX2_onRing_24 rfl (lv_at hl 0 rfl) ?_
      refine lv_if_eq (tgt := 56) hx hb dX2_onRing_25 (by decide) (fun _ => ?_) (fun q => absurd (by decide) q)
      refine lv_iconst (v := (-1)) hx hb dX2_onRing_56 (by decide) ?_
      exact W.iret (v := (-1)) hx hb hr (fun t ht hW => ⟨⟨(-1), (), rfl, (by rw [cyF_n (fun h9 => by have h1 := h9.2.2.2.1; have h2 := h9.2.2.2.2.1; have h3 := h9.2.2.2.2.2; rw [fe9] at h1 h3; omega)]; decide), by rw [ht]; exact hP, va_K.moved hW.alike hK, hD⟩, hS.F ht⟩) hS.2.2 dX2_onRing_57
    · skip
      have f10 : ((V 15 (Int32.toNatClampNeg p0))).toInt = 3 := b_eq rfl (by decide) c8
      refine lv_iconst (v := 1) hx hb dX2_onRing_18 (by decide) ?_
      refine lv_goto (tgt := 23) hx hb dX2_onRing_19 (by decide) ?_
      refine lv_istore_n (lv' := [(3, .int 1), (0, .ref (ad 2)), (1, .int p0), (2, .int p1)]) hx hb dX2_onRing_23 rfl hl (by decide) rfl (fun ls hl => ?_)
      refine lv_iload_n hx hb dX2_onRing_24 rfl (lv_at hl 0 rfl) ?_
      refine lv_if_eq (tgt := 56) hx hb dX2_onRing_25 (by decide) (fun q => absurd q (by decide)) (fun _ => ?_)
      refine lv_iload_n hx hb dX2_onRing_28 rfl (lv_at hl 3 rfl) ?_
      refine lv_if_lt (tgt := 56) hx hb dX2_onRing_29 (by decide) (fun c11 => ?_) (fun c11 => ?_)
      · skip
        have f12 : p1.toInt < 0 := b_lt rfl (by decide) c11
        refine lv_iconst (v := (-1)) hx hb dX2_onRing_56 (by decide) ?_
        exact W.iret (v := (-1)) hx hb hr (fun t ht hW => ⟨⟨(-1), (), rfl, (by rw [cyF_n (fun h9 => by have h1 := h9.2.2.2.1; have h2 := h9.2.2.2.2.1; have h3 := h9.2.2.2.2.2; rw [fe9] at h1 h3; omega)]; decide), by rw [ht]; exact hP, va_K.moved hW.alike hK, hD⟩, hS.F ht⟩) hS.2.2 dX2_onRing_57
      · skip
        have f13 : 0 ≤ p1.toInt := b_nlt rfl (by decide) c11
        refine lv_iload_n hx hb dX2_onRing_32 rfl (lv_at hl 3 rfl) ?_
        refine lv_aload_n hx hb dX2_onRing_33 rfl (lv_at hl 1 rfl) ?_
        refine va_get (D := D) (ci := 2) (v := .ref (ad 14)) (fs := (xfChecker ad V L Z)) (C := RX2) (T := TX2) (N := 8) hx hb hg inX2 hown hK hP 2 xgChecker rfl 2 (by decide) (hg _ w340) (fun _ h9 => h9) rfl dX2_onRing_34 ?_
        refine lv_iload_n hx hb dX2_onRing_37 rfl (lv_at hl 2 rfl) ?_
        refine va_iald (D := D) (i := p0) hx hb hK hP 14 7 rfl rfl (i_in (a := p0.toInt) rfl (by first | exact om_c6bee26a01dc t4 f7 | first | omega | ((try (have i_flq := Imp.go flq (by omega))); omega))) dX2_onRing_38 ?_
        have r14 : (-100) ≤ ((V 17 (Int32.toNatClampNeg p0))).toInt ∧ ((V 17 (Int32.toNatClampNeg p0))).toInt ≤ 24 := hMV 17 (Int32.toNatClampNeg p0)
        refine lv_icmp_ge (tgt := 56) hx hb dX2_onRing_39 (by decide) (fun c15 => ?_) (fun c15 => ?_)
        · skip
          have f16 : ((V 17 (Int32.toNatClampNeg p0))).toInt ≤ p1.toInt := b_le rfl rfl c15
          refine lv_iconst (v := (-1)) hx hb dX2_onRing_56 (by decide) ?_
          exact W.iret (v := (-1)) hx hb hr (fun t ht hW => ⟨⟨(-1), (), rfl, (by rw [cyF_n (fun h9 => by have h1 := h9.2.2.2.1; have h2 := h9.2.2.2.2.1; have h3 := h9.2.2.2.2.2; rw [fe9] at h1 h3; omega)]; decide), by rw [ht]; exact hP, va_K.moved hW.alike hK, hD⟩, hS.F ht⟩) hS.2.2 dX2_onRing_57
        · skip
          have f17 : p1.toInt < ((V 17 (Int32.toNatClampNeg p0))).toInt := b_nle rfl rfl c15
          refine lv_aload_n hx hb dX2_onRing_42 rfl (lv_at hl 1 rfl) ?_
          refine va_get (D := D) (ci := 2) (v := .ref (ad 15)) (fs := (xfChecker ad V L Z)) (C := RX2) (T := TX2) (N := 8) hx hb hg inX2 hown hK hP 2 xgChecker rfl 3 (by decide) (hg _ w341) (fun _ h9 => h9) rfl dX2_onRing_43 ?_
          refine lv_iload_n hx hb dX2_onRing_46 rfl (lv_at hl 2 rfl) ?_
          refine lv_bipush (v := 24) hx hb dX2_onRing_47 (by decide) ?_
          refine lv_imul hx hb dX2_onRing_49 ?_
          refine lv_topi (fun z18 ez18 => ?_)
          have hz18 : z18.toInt = p0.toInt * 24 := i_mul ez18 rfl (by decide) (by (first | exact om_110f36f4c3cc t4 f7 | omega))
          refine lv_iload_n hx hb dX2_onRing_50 rfl (lv_at hl 3 rfl) ?_
          refine lv_iadd hx hb dX2_onRing_51 ?_
          refine lv_topi (fun z19 ez19 => ?_)
          have hz19 : z19.toInt = z18.toInt + p1.toInt := i_add ez19 rfl rfl (by (first | exact om_739c20f9d597 t4 f7 f13 r14.2 f17 hz18 | omega))
          refine va_iald (D := D) (i := z19) hx hb hK hP 15 8 rfl rfl (i_in (a := z19.toInt) rfl (by first | exact om_1ef0d569f750 t4 f7 f13 r14.2 f17 hz18 hz19 | first | omega | ((try (have i_flq := Imp.go flq (by omega))); omega))) dX2_onRing_52 ?_
          refine lv_goto (tgt := 57) hx hb dX2_onRing_53 (by decide) ?_
          have kq9 := i_clamp (x := p1) rfl (by (first | exact om_eafa9039069c f13 | omega))
          have rz9 : Int32.toNatClampNeg z19 = 24 * Int32.toNatClampNeg p0 + Int32.toNatClampNeg p1 := by have h9 := i_clamp (x := z19) rfl (by (first | exact om_6460ebfc0e3d kk9 f13 hz18 hz19 | omega)); (first | exact om_add7d9e78a51 kk9 hz18 hz19 kq9 h9 | omega)
          exact W.iret (v := (V 18 (Int32.toNatClampNeg z19))) hx hb hr (fun t ht hW => ⟨⟨(V 18 (Int32.toNatClampNeg z19)), (), rfl, (by rw [cyF_y (a := Int32.toNatClampNeg p0) (b := Int32.toNatClampNeg p1) (by omega) (by omega) (by omega) (by omega) (by omega) (by omega)]; have h9 := fk9.2.2.2 (by omega) (Int32.toNatClampNeg p1) (by omega); rw [← rz9] at h9; exact h9), by rw [ht]; exact hP, va_K.moved hW.alike hK, hD⟩, hS.F ht⟩) hS.2.2 dX2_onRing_57
abbrev r_x_h_fault7 : Room := { frames := 2, cells := 0, slots := 0, locals := 43 }
abbrev q_x_h_fault7 (D : va_G) (ks : KS) (ad : Nat → Nat) (kk : Nat → ClassId) (V : Vf) (L : Lf) (Z : XZ) (p0 : Int32) (p1 : Int32) (gF : FSt) (A : Nat → Prop) : Array Value → State → Outcome → State → Prop := va_Qi (fun (r : Int32) (_ : Unit) => (r.toInt = flF gF p0.toInt p1.toInt)) (fun _ t => gq D A (xw ad kk V L Z) (xty kk Z) t) A
set_option maxHeartbeats 4000000 in
set_option maxRecDepth 100000 in
theorem x_h_fault7 (l : Launch) (D : va_G) (ks : KS) (sz : Nat) (ad : Nat → Nat) (kk : Nat → ClassId) (V : Vf) (L : Lf) (Z : XZ) (p0 : Int32) (p1 : Int32) (gF : FSt) (hMV : rgd bX V) (flq : FLc V gF)  : Met l yX11_fault (Cond.code yX11_fault cX11_fault 3 (some .int) :: GW) r_x_h_fault7 (va_Pc [.ref (ad 0), .int p0, .int p1] (gp D ks (xw ad kk V L Z) (xty kk Z) sz)) (q_x_h_fault7 D ks ad kk V L Z p0 p1 gF (va_A (xw ad kk V L Z) sz)) 0 0 (va_A (xw ad kk V L Z) sz) := by
  refine g_met (q_x_h_fault7 D ks ad kk V L Z p0 p1 gF) (by decide) (Nat.le_of_ble_eq_true rfl) ?_
  intro p e s m below meth c A ls H locs hx hb hr hml hown hg hlocks hin hnw hgk hP hK hD hS hA hl
  have hown : s.vm.findClass RX11 = some m.cls := hown
  have hl : lv_has ls 3 [(0, .ref (ad 0)), (1, .int p0), (2, .int p1)] := hl
  have hP : va_P D vwCl (xw ad kk V L Z) H := hP
  have hD : va_D A (xw ad kk V L Z) := hD
  have hK : va_K D vwCl (xty kk Z) s := hK
  refine lv_aload_n hx hb dX11_fault_0 rfl (lv_at hl 0 rfl) ?_
  refine va_get (D := D) (ci := 11) (v := .ref (ad 2)) (fs := (xfHouse ad V L Z)) (C := RX11) (T := TX11) (N := 10) hx hb hg inX11 hown hK hP 0 xgHouse rfl 2 (by decide) (hg _ w717) (fun _ h9 => h9) rfl dX11_fault_1 ?_
  refine lv_iload_n hx hb dX11_fault_4 rfl (lv_at hl 1 rfl) ?_
  refine lv_iload_n hx hb dX11_fault_5 rfl (lv_at hl 2 rfl) ?_
  refine gA_int (gA_runV (As := [.int p0, .int p1]) (rest := []) (ci := 2) (q0 := 2) hx hb hml hown hg hP hD hK hS hA hnw hgk (x_tell7 l D ks H.size ad kk V L Z p0 p1 (gF) hMV flq) w1117 w1118 w1119 w163 w1120 rfl xgChecker hdV_yX2_tell ⟨Nat.le_of_ble_eq_true rfl, Nat.le_of_ble_eq_true rfl⟩ rfl hl.1 rfl (Nat.le_of_ble_eq_true rfl) dX11_fault_6 ⟨Nat.le_of_ble_eq_true rfl, Nat.le_of_ble_eq_true rfl⟩) hP hD hK hS hA (fun z1 u2 H locs w3 hP hD hK hS => ?_)
  have t4 := w3
  have t4 : z1.toInt = flF gF p0.toInt p1.toInt := t4
  exact W.iret (v := z1) hx hb hr (fun t ht hW => ⟨⟨z1, (), rfl, t4, by rw [ht]; exact hP, va_K.moved hW.alike hK, hD⟩, hS.F ht⟩) hS.2.2 dX11_fault_9
abbrev r_x_h_cycle7 : Room := { frames := 2, cells := 0, slots := 0, locals := 44 }
abbrev q_x_h_cycle7 (D : va_G) (ks : KS) (ad : Nat → Nat) (kk : Nat → ClassId) (V : Vf) (L : Lf) (Z : XZ) (p0 : Int32) (p1 : Int32) (gF : FSt) (A : Nat → Prop) : Array Value → State → Outcome → State → Prop := va_Qi (fun (r : Int32) (_ : Unit) => (r.toInt = cyF gF p0.toInt p1.toInt)) (fun _ t => gq D A (xw ad kk V L Z) (xty kk Z) t) A
set_option maxHeartbeats 4000000 in
set_option maxRecDepth 100000 in
theorem x_h_cycle7 (l : Launch) (D : va_G) (ks : KS) (sz : Nat) (ad : Nat → Nat) (kk : Nat → ClassId) (V : Vf) (L : Lf) (Z : XZ) (p0 : Int32) (p1 : Int32) (gF : FSt) (hMV : rgd bX V) (flq : FLc V gF)  : Met l yX11_cycle (Cond.code yX11_cycle cX11_cycle 3 (some .int) :: GW) r_x_h_cycle7 (va_Pc [.ref (ad 0), .int p0, .int p1] (gp D ks (xw ad kk V L Z) (xty kk Z) sz)) (q_x_h_cycle7 D ks ad kk V L Z p0 p1 gF (va_A (xw ad kk V L Z) sz)) 0 0 (va_A (xw ad kk V L Z) sz) := by
  refine g_met (q_x_h_cycle7 D ks ad kk V L Z p0 p1 gF) (by decide) (Nat.le_of_ble_eq_true rfl) ?_
  intro p e s m below meth c A ls H locs hx hb hr hml hown hg hlocks hin hnw hgk hP hK hD hS hA hl
  have hown : s.vm.findClass RX11 = some m.cls := hown
  have hl : lv_has ls 3 [(0, .ref (ad 0)), (1, .int p0), (2, .int p1)] := hl
  have hP : va_P D vwCl (xw ad kk V L Z) H := hP
  have hD : va_D A (xw ad kk V L Z) := hD
  have hK : va_K D vwCl (xty kk Z) s := hK
  refine lv_aload_n hx hb dX11_cycle_0 rfl (lv_at hl 0 rfl) ?_
  refine va_get (D := D) (ci := 11) (v := .ref (ad 2)) (fs := (xfHouse ad V L Z)) (C := RX11) (T := TX11) (N := 10) hx hb hg inX11 hown hK hP 0 xgHouse rfl 2 (by decide) (hg _ w717) (fun _ h9 => h9) rfl dX11_cycle_1 ?_
  refine lv_iload_n hx hb dX11_cycle_4 rfl (lv_at hl 1 rfl) ?_
  refine lv_iload_n hx hb dX11_cycle_5 rfl (lv_at hl 2 rfl) ?_
  refine gA_int (gA_runV (As := [.int p0, .int p1]) (rest := []) (ci := 2) (q0 := 2) hx hb hml hown hg hP hD hK hS hA hnw hgk (x_onRing7 l D ks H.size ad kk V L Z p0 p1 (gF) hMV flq) w1129 w1130 w1131 w163 w1132 rfl xgChecker hdV_yX2_onRing ⟨Nat.le_of_ble_eq_true rfl, Nat.le_of_ble_eq_true rfl⟩ rfl hl.1 rfl (Nat.le_of_ble_eq_true rfl) dX11_cycle_6 ⟨Nat.le_of_ble_eq_true rfl, Nat.le_of_ble_eq_true rfl⟩) hP hD hK hS hA (fun z1 u2 H locs w3 hP hD hK hS => ?_)
  have t4 := w3
  have t4 : z1.toInt = cyF gF p0.toInt p1.toInt := t4
  exact W.iret (v := z1) hx hb hr (fun t ht hW => ⟨⟨z1, (), rfl, t4, by rw [ht]; exact hP, va_K.moved hW.alike hK, hD⟩, hS.F ht⟩) hS.2.2 dX11_cycle_9
abbrev r_s_fault7 : Room := { frames := 0, cells := 0, slots := 0, locals := 0 }
abbrev q_s_fault7 (D : va_G) (ks : KS) (ad : Nat → Nat) (kk : Nat → ClassId) (V : Vf) (L : Lf) (p0 : Int32) (p1 : Int32) (gF : FSt) (A : Nat → Prop) : Array Value → State → Outcome → State → Prop := va_Qi (fun (r : Int32) (u : Vf × Lf) => rgd bM u.1 ∧ agr [(0, 0)] [] V u.1 ∧ u.2 = L ∧ (r.toInt = flF gF p0.toInt p1.toInt)) (fun u t => gq D A (mw ad kk ks.1 u.1 u.2) (mty kk) t) A
set_option maxHeartbeats 4000000 in
set_option maxRecDepth 100000 in
theorem s_fault7 (l : Launch) (D : va_G) (ks : KS) (sz : Nat) (ad : Nat → Nat) (kk : Nat → ClassId) (V : Vf) (L : Lf) (p0 : Int32) (p1 : Int32) (gF : FSt) (hMV : rgd bM V) (flq : FLm V gF)  : Met l yX12_fault (Cond.code yX12_fault cX12_fault 3 (some .int) :: GW) r_s_fault7 (va_Pc [.ref (ad 0), .int p0, .int p1] (gp D ks (mw ad kk ks.1 V L) (mty kk) sz)) (q_s_fault7 D ks ad kk V L p0 p1 gF (va_A (mw ad kk ks.1 V L) sz)) 0 0 (va_A (mw ad kk ks.1 V L) sz) := by
  refine g_met (q_s_fault7 D ks ad kk V L p0 p1 gF) (by decide) (Nat.le_of_ble_eq_true rfl) ?_
  intro p e s m below meth c A ls H locs hx hb hr hml hown hg hlocks hin hnw hgk hP hK hD hS hA hl
  have hown : s.vm.findClass RX12 = some m.cls := hown
  have hl : lv_has ls 3 [(0, .ref (ad 0)), (1, .int p0), (2, .int p1)] := hl
  have hP : va_P D vwCl (mw ad kk ks.1 V L) H := hP
  have hD : va_D A (mw ad kk ks.1 V L) := hD
  have hK : va_K D vwCl (mty kk) s := hK
  have agV : agr [(0, 0)] [] V V := agr.rf
  have fn0 := flq.n
  refine lv_aload_n hx hb dX12_fault_0 rfl (lv_at hl 0 rfl) ?_
  refine lv_iconst (v := 0) hx hb dX12_fault_1 (by decide) ?_
  refine va_put (D := D) (ci := 12) (v := .int 0) (ty := tyX12 0) (C := RX12) (T := TX12) (N := 100) hx hb hg inX12 tyX12 tyX12_ok nmX12 hown hK hP hD hS 0 rfl rfl 0 (by decide) (hg _ w1706) (fun _ h9 => h9) rfl (tyX12_ok 0 (by decide)) rfl rfl (Nat.le_of_ble_eq_true rfl) dX12_fault_2 (fun H locs hP hD hS => ?_)
  obtain ⟨V1, hV1⟩ : ∃ z, z = up2 V 0 0 0 := ⟨_, rfl⟩
  have hP : va_P D vwCl (mw ad kk ks.1 V1 L) H := by rw [hV1]; exact hP
  have hD : va_D A (mw ad kk ks.1 V1 L) := by rw [hV1]; exact hD
  have hMV1 : rgd bM V1 := hMV.put hV1 (i_full _)
  have agV1 : agr [(0, 0)] [] V V1 := agV.up hV1 rfl
  refine lv_iload_n hx hb dX12_fault_5 rfl (lv_at hl 1 rfl) ?_
  refine lv_if_lt (tgt := 23) hx hb dX12_fault_6 (by decide) (fun c2 => ?_) (fun c2 => ?_)
  · skip
    have f3 : p0.toInt < 0 := b_lt rfl (by decide) c2
    refine lv_iconst (v := (-1)) hx hb dX12_fault_23 (by decide) ?_
    exact W.iret (v := (-1)) hx hb hr (fun t ht hW => ⟨⟨(-1), (V1, L), rfl, ⟨hMV1, agV1, rfl, (by rw [flF_n (by omega)]; decide)⟩, by rw [ht]; exact hP, va_K.moved hW.alike hK, hD⟩, hS.F ht⟩) hS.2.2 dX12_fault_24
  · skip
    have f4 : 0 ≤ p0.toInt := b_nlt rfl (by decide) c2
    refine lv_iload_n hx hb dX12_fault_9 rfl (lv_at hl 1 rfl) ?_
    refine lv_aload_n hx hb dX12_fault_10 rfl (lv_at hl 0 rfl) ?_
    refine va_get (D := D) (ci := 12) (v := .int (V1 0 81)) (C := RX12) (T := TX12) (N := 100) hx hb hg inX12 hown hK hP 0 rfl rfl 81 (by decide) (hg _ w1787) (fun _ h9 => h9) rfl dX12_fault_11 ?_
    refine g_top (v := (V 0 81)) (up2_k hV1 (by decide)) ?_
    have r5 : 0 ≤ ((V 0 81)).toInt ∧ ((V 0 81)).toInt ≤ 1000000 := hMV 0 81
    refine lv_icmp_ge (tgt := 23) hx hb dX12_fault_14 (by decide) (fun c6 => ?_) (fun c6 => ?_)
    · skip
      have f7 : ((V 0 81)).toInt ≤ p0.toInt := b_le rfl rfl c6
      refine lv_iconst (v := (-1)) hx hb dX12_fault_23 (by decide) ?_
      exact W.iret (v := (-1)) hx hb hr (fun t ht hW => ⟨⟨(-1), (V1, L), rfl, ⟨hMV1, agV1, rfl, (by rw [flF_n (by omega)]; decide)⟩, by rw [ht]; exact hP, va_K.moved hW.alike hK, hD⟩, hS.F ht⟩) hS.2.2 dX12_fault_24
    · skip
      have f8 : p0.toInt < ((V 0 81)).toInt := b_nle rfl rfl c6
      refine lv_iload_n hx hb dX12_fault_17 rfl (lv_at hl 1 rfl) ?_
      refine lv_bipush (v := 100) hx hb dX12_fault_18 (by decide) ?_
      refine lv_icmp_lt (tgt := 25) hx hb dX12_fault_20 (by decide) (fun c9 => ?_) (fun c9 => ?_)
      · skip
        have f10 : p0.toInt < 100 := b_lt rfl (by decide) c9
        have kk9 := i_clamp (x := p0) rfl (by (first | exact om_eafa9039069c f4 | omega))
        have fk9 := flq.1.2 (Int32.toNatClampNeg p0) (by omega) (by omega)
        have fe9 : p0.toInt.toNat = Int32.toNatClampNeg p0 := rfl
        refine lv_iload_n hx hb dX12_fault_25 rfl (lv_at hl 2 rfl) ?_
        refine lv_if_ne (tgt := 38) hx hb dX12_fault_26 (by decide) (fun c11 => ?_) (fun c11 => ?_)
        · skip
          have f12 : p1.toInt ≠ 0 := b_neq rfl (by decide) c11
          refine lv_iload_n hx hb dX12_fault_38 rfl (lv_at hl 2 rfl) ?_
          refine lv_iconst (v := 1) hx hb dX12_fault_39 (by decide) ?_
          refine lv_icmp_ne (tgt := 52) hx hb dX12_fault_40 (by decide) (fun c13 => ?_) (fun c13 => ?_)
          · skip
            have f14 : p1.toInt ≠ 1 := b_neq rfl (by decide) c13
            refine lv_iload_n hx hb dX12_fault_52 rfl (lv_at hl 2 rfl) ?_
            refine lv_iconst (v := 2) hx hb dX12_fault_53 (by decide) ?_
            refine lv_icmp_ne (tgt := 66) hx hb dX12_fault_54 (by decide) (fun c15 => ?_) (fun c15 => ?_)
            · skip
              have f16 : p1.toInt ≠ 2 := b_neq rfl (by decide) c15
              refine lv_iconst (v := (-1)) hx hb dX12_fault_66 (by decide) ?_
              exact W.iret (v := (-1)) hx hb hr (fun t ht hW => ⟨⟨(-1), (V1, L), rfl, ⟨hMV1, agV1, rfl, (by rw [flF_n (by omega)]; decide)⟩, by rw [ht]; exact hP, va_K.moved hW.alike hK, hD⟩, hS.F ht⟩) hS.2.2 dX12_fault_67
            · skip
              have f17 : p1.toInt = 2 := b_eq rfl (by decide) c15
              refine lv_aload_n hx hb dX12_fault_57 rfl (lv_at hl 0 rfl) ?_
              refine va_get (D := D) (ci := 12) (v := .ref (ad 84)) (C := RX12) (T := TX12) (N := 100) hx hb hg inX12 hown hK hP 0 rfl rfl 84 (by decide) (hg _ w1790) (fun _ h9 => h9) rfl dX12_fault_58 ?_
              refine lv_iload_n hx hb dX12_fault_61 rfl (lv_at hl 1 rfl) ?_
              refine va_iald (D := D) (i := p0) hx hb hK hP 60 59 rfl rfl (i_in (a := p0.toInt) rfl (by (first | exact om_84fa328245f5 f4 f10 | omega))) dX12_fault_62 ?_
              refine g_top (v := (V 84 (Int32.toNatClampNeg p0))) (up2_o hV1 (by decide)) ?_
              have r18 : (-1) ≤ ((V 84 (Int32.toNatClampNeg p0))).toInt ∧ ((V 84 (Int32.toNatClampNeg p0))).toInt ≤ 24 := hMV 84 (Int32.toNatClampNeg p0)
              refine lv_goto (tgt := 67) hx hb dX12_fault_63 (by decide) ?_
              exact W.iret (v := (V 84 (Int32.toNatClampNeg p0))) hx hb hr (fun t ht hW => ⟨⟨(V 84 (Int32.toNatClampNeg p0)), (V1, L), rfl, ⟨hMV1, agV1, rfl, (by rw [flF_y (k := Int32.toNatClampNeg p0) (j := 2) (by omega) (by omega) (by omega) (by omega) (by decide)]; exact fk9.2.2.1)⟩, by rw [ht]; exact hP, va_K.moved hW.alike hK, hD⟩, hS.F ht⟩) hS.2.2 dX12_fault_67
          · skip
            have f19 : p1.toInt = 1 := b_eq rfl (by decide) c13
            refine lv_aload_n hx hb dX12_fault_43 rfl (lv_at hl 0 rfl) ?_
            refine va_get (D := D) (ci := 12) (v := .ref (ad 83)) (C := RX12) (T := TX12) (N := 100) hx hb hg inX12 hown hK hP 0 rfl rfl 83 (by decide) (hg _ w1789) (fun _ h9 => h9) rfl dX12_fault_44 ?_
            refine lv_iload_n hx hb dX12_fault_47 rfl (lv_at hl 1 rfl) ?_
            refine va_iald (D := D) (i := p0) hx hb hK hP 59 58 rfl rfl (i_in (a := p0.toInt) rfl (by (first | exact om_84fa328245f5 f4 f10 | omega))) dX12_fault_48 ?_
            refine g_top (v := (V 83 (Int32.toNatClampNeg p0))) (up2_o hV1 (by decide)) ?_
            refine lv_goto (tgt := 67) hx hb dX12_fault_49 (by decide) ?_
            exact W.iret (v := (V 83 (Int32.toNatClampNeg p0))) hx hb hr (fun t ht hW => ⟨⟨(V 83 (Int32.toNatClampNeg p0)), (V1, L), rfl, ⟨hMV1, agV1, rfl, (by rw [flF_y (k := Int32.toNatClampNeg p0) (j := 1) (by omega) (by omega) (by omega) (by omega) (by decide)]; exact fk9.2.1)⟩, by rw [ht]; exact hP, va_K.moved hW.alike hK, hD⟩, hS.F ht⟩) hS.2.2 dX12_fault_67
        · skip
          have f20 : p1.toInt = 0 := b_eq rfl (by decide) c11
          refine lv_aload_n hx hb dX12_fault_29 rfl (lv_at hl 0 rfl) ?_
          refine va_get (D := D) (ci := 12) (v := .ref (ad 82)) (C := RX12) (T := TX12) (N := 100) hx hb hg inX12 hown hK hP 0 rfl rfl 82 (by decide) (hg _ w1788) (fun _ h9 => h9) rfl dX12_fault_30 ?_
          refine lv_iload_n hx hb dX12_fault_33 rfl (lv_at hl 1 rfl) ?_
          refine va_iald (D := D) (i := p0) hx hb hK hP 58 57 rfl rfl (i_in (a := p0.toInt) rfl (by (first | exact om_84fa328245f5 f4 f10 | omega))) dX12_fault_34 ?_
          refine g_top (v := (V 82 (Int32.toNatClampNeg p0))) (up2_o hV1 (by decide)) ?_
          refine lv_goto (tgt := 67) hx hb dX12_fault_35 (by decide) ?_
          exact W.iret (v := (V 82 (Int32.toNatClampNeg p0))) hx hb hr (fun t ht hW => ⟨⟨(V 82 (Int32.toNatClampNeg p0)), (V1, L), rfl, ⟨hMV1, agV1, rfl, (by rw [flF_y (k := Int32.toNatClampNeg p0) (j := 0) (by omega) (by omega) (by omega) (by omega) (by decide)]; exact fk9.1)⟩, by rw [ht]; exact hP, va_K.moved hW.alike hK, hD⟩, hS.F ht⟩) hS.2.2 dX12_fault_67
      · skip
        have f21 : 100 ≤ p0.toInt := b_nlt rfl (by decide) c9
        refine lv_iconst (v := (-1)) hx hb dX12_fault_23 (by decide) ?_
        exact W.iret (v := (-1)) hx hb hr (fun t ht hW => ⟨⟨(-1), (V1, L), rfl, ⟨hMV1, agV1, rfl, (by rw [flF_n (by omega)]; decide)⟩, by rw [ht]; exact hP, va_K.moved hW.alike hK, hD⟩, hS.F ht⟩) hS.2.2 dX12_fault_24
abbrev r_s_cycle7 : Room := { frames := 0, cells := 0, slots := 0, locals := 0 }
abbrev q_s_cycle7 (D : va_G) (ks : KS) (ad : Nat → Nat) (kk : Nat → ClassId) (V : Vf) (L : Lf) (p0 : Int32) (p1 : Int32) (gF : FSt) (A : Nat → Prop) : Array Value → State → Outcome → State → Prop := va_Qi (fun (r : Int32) (u : Vf × Lf) => rgd bM u.1 ∧ agr [(0, 0)] [] V u.1 ∧ u.2 = L ∧ (r.toInt = cyF gF p0.toInt p1.toInt)) (fun u t => gq D A (mw ad kk ks.1 u.1 u.2) (mty kk) t) A
set_option maxHeartbeats 4000000 in
set_option maxRecDepth 100000 in
theorem s_cycle7 (l : Launch) (D : va_G) (ks : KS) (sz : Nat) (ad : Nat → Nat) (kk : Nat → ClassId) (V : Vf) (L : Lf) (p0 : Int32) (p1 : Int32) (gF : FSt) (hMV : rgd bM V) (flq : FLm V gF)  : Met l yX12_cycle (Cond.code yX12_cycle cX12_cycle 3 (some .int) :: GW) r_s_cycle7 (va_Pc [.ref (ad 0), .int p0, .int p1] (gp D ks (mw ad kk ks.1 V L) (mty kk) sz)) (q_s_cycle7 D ks ad kk V L p0 p1 gF (va_A (mw ad kk ks.1 V L) sz)) 0 0 (va_A (mw ad kk ks.1 V L) sz) := by
  refine g_met (q_s_cycle7 D ks ad kk V L p0 p1 gF) (by decide) (Nat.le_of_ble_eq_true rfl) ?_
  intro p e s m below meth c A ls H locs hx hb hr hml hown hg hlocks hin hnw hgk hP hK hD hS hA hl
  have hown : s.vm.findClass RX12 = some m.cls := hown
  have hl : lv_has ls 3 [(0, .ref (ad 0)), (1, .int p0), (2, .int p1)] := hl
  have hP : va_P D vwCl (mw ad kk ks.1 V L) H := hP
  have hD : va_D A (mw ad kk ks.1 V L) := hD
  have hK : va_K D vwCl (mty kk) s := hK
  have agV : agr [(0, 0)] [] V V := agr.rf
  have fn0 := flq.n
  refine lv_aload_n hx hb dX12_cycle_0 rfl (lv_at hl 0 rfl) ?_
  refine lv_iconst (v := 0) hx hb dX12_cycle_1 (by decide) ?_
  refine va_put (D := D) (ci := 12) (v := .int 0) (ty := tyX12 0) (C := RX12) (T := TX12) (N := 100) hx hb hg inX12 tyX12 tyX12_ok nmX12 hown hK hP hD hS 0 rfl rfl 0 (by decide) (hg _ w1706) (fun _ h9 => h9) rfl (tyX12_ok 0 (by decide)) rfl rfl (Nat.le_of_ble_eq_true rfl) dX12_cycle_2 (fun H locs hP hD hS => ?_)
  obtain ⟨V1, hV1⟩ : ∃ z, z = up2 V 0 0 0 := ⟨_, rfl⟩
  have hP : va_P D vwCl (mw ad kk ks.1 V1 L) H := by rw [hV1]; exact hP
  have hD : va_D A (mw ad kk ks.1 V1 L) := by rw [hV1]; exact hD
  have hMV1 : rgd bM V1 := hMV.put hV1 (i_full _)
  have agV1 : agr [(0, 0)] [] V V1 := agV.up hV1 rfl
  refine lv_iload_n hx hb dX12_cycle_5 rfl (lv_at hl 1 rfl) ?_
  refine lv_if_lt (tgt := 47) hx hb dX12_cycle_6 (by decide) (fun c2 => ?_) (fun c2 => ?_)
  · skip
    have f3 : p0.toInt < 0 := b_lt rfl (by decide) c2
    refine lv_iconst (v := (-1)) hx hb dX12_cycle_47 (by decide) ?_
    exact W.iret (v := (-1)) hx hb hr (fun t ht hW => ⟨⟨(-1), (V1, L), rfl, ⟨hMV1, agV1, rfl, (by rw [cyF_n (by omega)]; decide)⟩, by rw [ht]; exact hP, va_K.moved hW.alike hK, hD⟩, hS.F ht⟩) hS.2.2 dX12_cycle_48
  · skip
    have f4 : 0 ≤ p0.toInt := b_nlt rfl (by decide) c2
    refine lv_iload_n hx hb dX12_cycle_9 rfl (lv_at hl 1 rfl) ?_
    refine lv_aload_n hx hb dX12_cycle_10 rfl (lv_at hl 0 rfl) ?_
    refine va_get (D := D) (ci := 12) (v := .int (V1 0 81)) (C := RX12) (T := TX12) (N := 100) hx hb hg inX12 hown hK hP 0 rfl rfl 81 (by decide) (hg _ w1787) (fun _ h9 => h9) rfl dX12_cycle_11 ?_
    refine g_top (v := (V 0 81)) (up2_k hV1 (by decide)) ?_
    have r5 : 0 ≤ ((V 0 81)).toInt ∧ ((V 0 81)).toInt ≤ 1000000 := hMV 0 81
    refine lv_icmp_ge (tgt := 47) hx hb dX12_cycle_14 (by decide) (fun c6 => ?_) (fun c6 => ?_)
    · skip
      have f7 : ((V 0 81)).toInt ≤ p0.toInt := b_le rfl rfl c6
      refine lv_iconst (v := (-1)) hx hb dX12_cycle_47 (by decide) ?_
      exact W.iret (v := (-1)) hx hb hr (fun t ht hW => ⟨⟨(-1), (V1, L), rfl, ⟨hMV1, agV1, rfl, (by rw [cyF_n (by omega)]; decide)⟩, by rw [ht]; exact hP, va_K.moved hW.alike hK, hD⟩, hS.F ht⟩) hS.2.2 dX12_cycle_48
    · skip
      have f8 : p0.toInt < ((V 0 81)).toInt := b_nle rfl rfl c6
      refine lv_iload_n hx hb dX12_cycle_17 rfl (lv_at hl 1 rfl) ?_
      refine lv_bipush (v := 100) hx hb dX12_cycle_18 (by decide) ?_
      refine lv_icmp_ge (tgt := 47) hx hb dX12_cycle_20 (by decide) (fun c9 => ?_) (fun c9 => ?_)
      · skip
        have f10 : 100 ≤ p0.toInt := b_le (by decide) rfl c9
        refine lv_iconst (v := (-1)) hx hb dX12_cycle_47 (by decide) ?_
        exact W.iret (v := (-1)) hx hb hr (fun t ht hW => ⟨⟨(-1), (V1, L), rfl, ⟨hMV1, agV1, rfl, (by rw [cyF_n (by omega)]; decide)⟩, by rw [ht]; exact hP, va_K.moved hW.alike hK, hD⟩, hS.F ht⟩) hS.2.2 dX12_cycle_48
      · skip
        have f11 : p0.toInt < 100 := b_nle (by decide) rfl c9
        have kk9 := i_clamp (x := p0) rfl (by (first | exact om_eafa9039069c f4 | omega))
        have fk9 := flq.1.2 (Int32.toNatClampNeg p0) (by omega) (by omega)
        have fe9 : p0.toInt.toNat = Int32.toNatClampNeg p0 := rfl
        refine lv_aload_n hx hb dX12_cycle_23 rfl (lv_at hl 0 rfl) ?_
        refine va_get (D := D) (ci := 12) (v := .ref (ad 82)) (C := RX12) (T := TX12) (N := 100) hx hb hg inX12 hown hK hP 0 rfl rfl 82 (by decide) (hg _ w1788) (fun _ h9 => h9) rfl dX12_cycle_24 ?_
        refine lv_iload_n hx hb dX12_cycle_27 rfl (lv_at hl 1 rfl) ?_
        refine va_iald (D := D) (i := p0) hx hb hK hP 58 57 rfl rfl (i_in (a := p0.toInt) rfl (by (first | exact om_84fa328245f5 f4 f11 | omega))) dX12_cycle_28 ?_
        refine g_top (v := (V 82 (Int32.toNatClampNeg p0))) (up2_o hV1 (by decide)) ?_
        refine lv_iconst (v := 3) hx hb dX12_cycle_29 (by decide) ?_
        refine lv_icmp_ne (tgt := 47) hx hb dX12_cycle_30 (by decide) (fun c12 => ?_) (fun c12 => ?_)
        · skip
          have f13 : ((V 82 (Int32.toNatClampNeg p0))).toInt ≠ 3 := b_neq rfl (by decide) c12
          refine lv_iconst (v := (-1)) hx hb dX12_cycle_47 (by decide) ?_
          exact W.iret (v := (-1)) hx hb hr (fun t ht hW => ⟨⟨(-1), (V1, L), rfl, ⟨hMV1, agV1, rfl, (by rw [cyF_n (fun h9 => by have h1 := h9.2.2.2.1; have h2 := h9.2.2.2.2.1; have h3 := h9.2.2.2.2.2; rw [fe9] at h1 h3; omega)]; decide)⟩, by rw [ht]; exact hP, va_K.moved hW.alike hK, hD⟩, hS.F ht⟩) hS.2.2 dX12_cycle_48
        · skip
          have f14 : ((V 82 (Int32.toNatClampNeg p0))).toInt = 3 := b_eq rfl (by decide) c12
          refine lv_iload_n hx hb dX12_cycle_33 rfl (lv_at hl 2 rfl) ?_
          refine lv_if_lt (tgt := 47) hx hb dX12_cycle_34 (by decide) (fun c15 => ?_) (fun c15 => ?_)
          · skip
            have f16 : p1.toInt < 0 := b_lt rfl (by decide) c15
            refine lv_iconst (v := (-1)) hx hb dX12_cycle_47 (by decide) ?_
            exact W.iret (v := (-1)) hx hb hr (fun t ht hW => ⟨⟨(-1), (V1, L), rfl, ⟨hMV1, agV1, rfl, (by rw [cyF_n (fun h9 => by have h1 := h9.2.2.2.1; have h2 := h9.2.2.2.2.1; have h3 := h9.2.2.2.2.2; rw [fe9] at h1 h3; omega)]; decide)⟩, by rw [ht]; exact hP, va_K.moved hW.alike hK, hD⟩, hS.F ht⟩) hS.2.2 dX12_cycle_48
          · skip
            have f17 : 0 ≤ p1.toInt := b_nlt rfl (by decide) c15
            refine lv_iload_n hx hb dX12_cycle_37 rfl (lv_at hl 2 rfl) ?_
            refine lv_aload_n hx hb dX12_cycle_38 rfl (lv_at hl 0 rfl) ?_
            refine va_get (D := D) (ci := 12) (v := .ref (ad 84)) (C := RX12) (T := TX12) (N := 100) hx hb hg inX12 hown hK hP 0 rfl rfl 84 (by decide) (hg _ w1790) (fun _ h9 => h9) rfl dX12_cycle_39 ?_
            refine lv_iload_n hx hb dX12_cycle_42 rfl (lv_at hl 1 rfl) ?_
            refine va_iald (D := D) (i := p0) hx hb hK hP 60 59 rfl rfl (i_in (a := p0.toInt) rfl (by (first | exact om_84fa328245f5 f4 f11 | omega))) dX12_cycle_43 ?_
            refine g_top (v := (V 84 (Int32.toNatClampNeg p0))) (up2_o hV1 (by decide)) ?_
            have r18 : (-1) ≤ ((V 84 (Int32.toNatClampNeg p0))).toInt ∧ ((V 84 (Int32.toNatClampNeg p0))).toInt ≤ 24 := hMV 84 (Int32.toNatClampNeg p0)
            refine lv_icmp_lt (tgt := 49) hx hb dX12_cycle_44 (by decide) (fun c19 => ?_) (fun c19 => ?_)
            · skip
              have f20 : p1.toInt < ((V 84 (Int32.toNatClampNeg p0))).toInt := b_lt rfl rfl c19
              refine lv_aload_n hx hb dX12_cycle_49 rfl (lv_at hl 0 rfl) ?_
              refine va_get (D := D) (ci := 12) (v := .ref (ad 85)) (C := RX12) (T := TX12) (N := 100) hx hb hg inX12 hown hK hP 0 rfl rfl 85 (by decide) (hg _ w1791) (fun _ h9 => h9) rfl dX12_cycle_50 ?_
              refine lv_bipush (v := 24) hx hb dX12_cycle_53 (by decide) ?_
              refine lv_iload_n hx hb dX12_cycle_55 rfl (lv_at hl 1 rfl) ?_
              refine lv_imul hx hb dX12_cycle_56 ?_
              refine lv_topi (fun z21 ez21 => ?_)
              have hz21 : z21.toInt = 24 * p0.toInt := i_mul ez21 (by decide) rfl (by (first | exact om_0975071f571e f4 f11 | omega))
              refine lv_iload_n hx hb dX12_cycle_57 rfl (lv_at hl 2 rfl) ?_
              refine lv_iadd hx hb dX12_cycle_58 ?_
              refine lv_topi (fun z22 ez22 => ?_)
              have hz22 : z22.toInt = z21.toInt + p1.toInt := i_add ez22 rfl rfl (by (first | exact om_033ff5f95ac9 f4 f11 f17 r18.2 f20 hz21 | omega))
              refine va_iald (D := D) (i := z22) hx hb hK hP 61 60 rfl rfl (i_in (a := z22.toInt) rfl (by (first | exact om_09d9a1981500 f4 f11 f17 r18.2 f20 hz21 hz22 | omega))) dX12_cycle_59 ?_
              refine g_top (v := (V 85 (Int32.toNatClampNeg z22))) (up2_o hV1 (by decide)) ?_
              have kq9 := i_clamp (x := p1) rfl (by (first | exact om_eafa9039069c f17 | omega))
              have rz9 : Int32.toNatClampNeg z22 = 24 * Int32.toNatClampNeg p0 + Int32.toNatClampNeg p1 := by have h9 := i_clamp (x := z22) rfl (by (first | exact om_19aed6992cbe f4 f17 hz21 hz22 | omega)); (first | exact om_2ce6b7e4456b f4 fe9 hz21 hz22 kq9 h9 | omega)
              exact W.iret (v := (V 85 (Int32.toNatClampNeg z22))) hx hb hr (fun t ht hW => ⟨⟨(V 85 (Int32.toNatClampNeg z22)), (V1, L), rfl, ⟨hMV1, agV1, rfl, (by rw [cyF_y (a := Int32.toNatClampNeg p0) (b := Int32.toNatClampNeg p1) (by omega) (by omega) (by omega) (by omega) (by omega) (by omega)]; have h9 := fk9.2.2.2 (by omega) (Int32.toNatClampNeg p1) (by omega); rw [← rz9] at h9; exact h9)⟩, by rw [ht]; exact hP, va_K.moved hW.alike hK, hD⟩, hS.F ht⟩) hS.2.2 dX12_cycle_60
            · skip
              have f23 : ((V 84 (Int32.toNatClampNeg p0))).toInt ≤ p1.toInt := b_nlt rfl rfl c19
              refine lv_iconst (v := (-1)) hx hb dX12_cycle_47 (by decide) ?_
              exact W.iret (v := (-1)) hx hb hr (fun t ht hW => ⟨⟨(-1), (V1, L), rfl, ⟨hMV1, agV1, rfl, (by rw [cyF_n (fun h9 => by have h1 := h9.2.2.2.1; have h2 := h9.2.2.2.2.1; have h3 := h9.2.2.2.2.2; rw [fe9] at h1 h3; omega)]; decide)⟩, by rw [ht]; exact hP, va_K.moved hW.alike hK, hD⟩, hS.F ht⟩) hS.2.2 dX12_cycle_48
end
section
/-! the faults told: the same on both sides -/
def KF (V Vm : Vf) : Prop := ∃ F, FLc V F ∧ FLm Vm F
theorem KF.mv {V V1 Vm Vm1 : Vf} (h : KF V Vm) (a0 : V1 2 7 = V 2 7) (a1 : V1 15 = V 15) (a2 : V1 16 = V 16) (a3 : V1 17 = V 17) (a4 : V1 18 = V 18) (b0 : Vm1 0 81 = Vm 0 81) (b1 : Vm1 82 = Vm 82) (b2 : Vm1 83 = Vm 83) (b3 : Vm1 84 = Vm 84) (b4 : Vm1 85 = Vm 85) : KF V1 Vm1 := by
  obtain ⟨F, c, m⟩ := h
  exact ⟨F, c.fo a0 a1 a2 a3 a4, m.fo b0 b1 b2 b3 b4⟩
theorem KF.z {V Vm : Vf} (h : (V 2 7).toInt = 0) (g : (Vm 0 81).toInt = 0) : KF V Vm := ⟨(0, fun _ _ => 0), ⟨FLT.z h, F24.z⟩, ⟨FLT.z g, F24.z⟩⟩
/-- two pictures -/
theorem LKg.of {D : va_G} {ad : Nat → Nat} {kk : Nat → ClassId} {V V2 : Vf} {L L2 : Lf} {Z : XZ} {H : Heap} (h : va_P D vwCl (xw ad kk V L Z) H) (h' : va_P D vwCl (xw ad kk V2 L2 Z) H) : V2 2 7 = V 2 7 := by
  have z : Value.int (V2 2 7) = Value.int (V 2 7) := at_o (h' _ _ xgChecker) (h _ _ xgChecker) (r := (RX2, TX2, 8)) rfl (k := 7) (by decide)
  injection z with z
def LKq (V V2 : Vf) : Prop := V2 0 81 = V 0 81 ∧ (∀ k, k < 100 → V2 82 k = V 82 k ∧ V2 83 k = V 83 k ∧ V2 84 k = V 84 k) ∧ ∀ k, k < 2400 → V2 85 k = V 85 k
theorem LKq.of {D : va_G} {ad : Nat → Nat} {kk : Nat → ClassId} {k1 : Nat} {V V2 : Vf} {L L2 : Lf} {H : Heap} (h : va_P D vwCl (mw ad kk k1 V L) H) (h' : va_P D vwCl (mw ad kk k1 V2 L2) H) : LKq V V2 := by
  refine ⟨?_, fun k hk => ⟨at_i (h' 58 _ rfl) (h 58 _ rfl) hk, at_i (h' 59 _ rfl) (h 59 _ rfl) hk, at_i (h' 60 _ rfl) (h 60 _ rfl) hk⟩, fun k hk => at_i (h' 61 _ rfl) (h 61 _ rfl) hk⟩
  have z : Value.int (V2 0 81) = Value.int (V 0 81) := at_o (h' 0 _ rfl) (h 0 _ rfl) (r := (RX12, TX12, 100)) rfl (k := 81) (by decide)
  injection z with z
theorem FLm.lk {V V2 : Vf} {F : FSt} (h : FLm V2 F) (l : LKq V V2) : FLm V F := by
  refine ⟨⟨by rw [← l.1]; exact h.1.1, fun i a b => ?_⟩, h.2⟩
  have z := h.1.2 i a b
  have e := l.2.1 i b
  rw [← e.1, ← e.2.1, ← e.2.2]
  refine ⟨z.1, z.2.1, z.2.2.1, fun w q hq => ?_⟩
  have y := h.2 i a w
  rw [← l.2.2 _ (by omega)]
  exact z.2.2.2 w q hq


abbrev r_x_kclear7 : Room := { frames := 0, cells := 0, slots := 0, locals := 0 }
abbrev q_x_kclear7 (D : va_G) (ks : KS) (ad : Nat → Nat) (kk : Nat → ClassId) (V : Vf) (L : Lf) (Z : XZ) (A : Nat → Prop) : Array Value → State → Outcome → State → Prop := va_Qv (fun (u : Vf × Lf) => rgd bX u.1 ∧ agr [(2, 7)] [] V u.1 ∧ u.2 = L ∧ ((u.1 2 7).toInt = 0)) (fun u t => gq D A (xw ad kk u.1 u.2 Z) (xty kk Z) t) A
set_option maxHeartbeats 4000000 in
set_option maxRecDepth 100000 in
theorem x_kclear7 (l : Launch) (D : va_G) (ks : KS) (sz : Nat) (ad : Nat → Nat) (kk : Nat → ClassId) (V : Vf) (L : Lf) (Z : XZ)  (hMV : rgd bX V)  : Met l yX2_clear (Cond.code yX2_clear cX2_clear 1 none :: GW) r_x_kclear7 (va_Pc [.ref (ad 2)] (gp D ks (xw ad kk V L Z) (xty kk Z) sz)) (q_x_kclear7 D ks ad kk V L Z  (va_A (xw ad kk V L Z) sz)) 0 0 (va_A (xw ad kk V L Z) sz) := by
  refine g_met (q_x_kclear7 D ks ad kk V L Z) (by decide) (Nat.le_of_ble_eq_true rfl) ?_
  intro p e s m below meth c A ls H locs hx hb hr hml hown hg hlocks hin hnw hgk hP hK hD hS hA hl
  have hown : s.vm.findClass RX2 = some m.cls := hown
  have hl : lv_has ls 1 [(0, .ref (ad 2))] := hl
  have hP : va_P D vwCl (xw ad kk V L Z) H := hP
  have hD : va_D A (xw ad kk V L Z) := hD
  have hK : va_K D vwCl (xty kk Z) s := hK
  have agV : agr [(2, 7)] [] V V := agr.rf
  refine lv_aload_n hx hb dX2_clear_0 rfl (lv_at hl 0 rfl) ?_
  refine lv_iconst (v := 0) hx hb dX2_clear_1 (by decide) ?_
  refine va_put (D := D) (ci := 2) (v := .int 0) (ty := tyX2 7) (fs := (xfChecker ad V L Z)) (C := RX2) (T := TX2) (N := 8) hx hb hg inX2 tyX2 tyX2_ok nmX2 hown hK hP hD hS 2 xgChecker rfl 7 (by decide) (hg _ w345) (fun _ h9 => h9) rfl (tyX2_ok 7 (by decide)) rfl rfl (Nat.le_of_ble_eq_true rfl) dX2_clear_2 (fun H locs hP hD hS => ?_)
  obtain ⟨V1, hV1⟩ : ∃ z, z = up2 V 2 7 0 := ⟨_, rfl⟩
  have ew2 : (xw ad kk V L Z).set 2 ((ad 2), .inr (2, (xfChecker ad V L Z).set 7 (.int 0))) = xw ad kk V1 L Z := by rw [hV1]; exact xw_ss (by decide) rfl (xb_si (by decide))
  have hP : va_P D vwCl (xw ad kk V1 L Z) H := by rw [← ew2]; exact hP
  have hD : va_D A (xw ad kk V1 L Z) := by rw [← ew2]; exact hD
  have hMV1 : rgd bX V1 := hMV.put hV1 (by decide)
  have agV1 : agr [(2, 7)] [] V V1 := agV.up hV1 rfl
  have pq3 : (V1 2 7).toInt = 0 := (congrArg Int32.toInt (up2_s hV1)).trans (by decide)
  exact W.vret hx hb hr (fun t ht hW => ⟨⟨(V1, L), rfl, ⟨hMV1, agV1, rfl, (show (V1 2 7).toInt = 0 from by (first | exact om_b66ba74381d5 pq3 | omega))⟩, by rw [ht]; exact hP, va_K.moved hW.alike hK, hD⟩, hS.F ht⟩) hS.2.2 dX2_clear_5
abbrev r_x_h_book7 : Room := { frames := 94, cells := 0, slots := 0, locals := 2751 }
abbrev q_x_h_book7 (D : va_G) (ks : KS) (ad : Nat → Nat) (kk : Nat → ClassId) (V : Vf) (L : Lf) (Z : XZ) (b : Nat) (b1 : Nat) (A : Nat → Prop) : Array Value → State → Outcome → State → Prop := va_Qi (fun (r : Int32) (u : Vf × Lf) => rgd bX u.1 ∧ agr [(0, 6), (0, 7), (0, 8), (0, 9), (1, 1), (1, 2), (1, 3), (1, 4), (1, 6), (1, 7), (1, 8), (2, 7), (3, 12), (3, 13), (3, 14), (3, 15), (4, 5), (4, 6), (4, 7), (4, 8), (5, 5), (5, 6), (5, 7), (5, 8), (5, 9), (5, 13), (6, 5), (6, 6), (6, 7), (6, 8), (6, 9), (6, 10)] [12, 13, 14, 23, 24, 25, 41, 42, 43, 44, 45, 46, 47, 48, 49, 50, 51, 52, 53, 54, 55, 56, 57, 58, 59, 60, 61, 62, 63, 64, 65, 66] V u.1 ∧ agL [1, 6, 14, 44] L u.2 ∧ ((r.toInt = 0 ∧ (u.1 2 7).toInt = 0) ∨ (r.toInt ≠ 0 ∧ (u.1 2 7).toInt = (V 2 7).toInt))) (fun u t => gq D A (xw ad kk u.1 u.2 Z) (xty kk Z) t) A
set_option maxHeartbeats 4000000 in
set_option maxRecDepth 100000 in
theorem x_h_book7 (l : Launch) (D : va_G) (ks : KS) (sz : Nat) (ad : Nat → Nat) (kk : Nat → ClassId) (V : Vf) (L : Lf) (Z : XZ) (b : Nat) (b1 : Nat) (hMV : rgd bX V) (hb2 : b < 2) (hb1 : b1 < 2) (hbb : b + b1 = 1) (shk : (V 0 6).toInt = (b : Int)) (spk : (V 0 7).toInt = (b1 : Int))  : Met l yX11_book (Cond.code yX11_book cX11_book 3 (some .int) :: GW) r_x_h_book7 (va_Pc [.ref (ad 0)] (gp D ks (xw ad kk V L Z) (xty kk Z) sz)) (q_x_h_book7 D ks ad kk V L Z  b b1 (va_A (xw ad kk V L Z) sz)) 0 0 (va_A (xw ad kk V L Z) sz) := by
  refine g_met (q_x_h_book7 D ks ad kk V L Z  b b1) (by decide) (Nat.le_of_ble_eq_true rfl) ?_
  intro p e s m below meth c A ls H locs hx hb hr hml hown hg hlocks hin hnw hgk hP hK hD hS hA hl
  have hown : s.vm.findClass RX11 = some m.cls := hown
  have hl : lv_has ls 3 [(0, .ref (ad 0))] := hl
  have hP : va_P D vwCl (xw ad kk V L Z) H := hP
  have hD : va_D A (xw ad kk V L Z) := hD
  have hK : va_K D vwCl (xty kk Z) s := hK
  have agV : agr [(0, 6), (0, 7), (0, 8), (0, 9), (1, 1), (1, 2), (1, 3), (1, 4), (1, 6), (1, 7), (1, 8), (2, 7), (3, 12), (3, 13), (3, 14), (3, 15), (4, 5), (4, 6), (4, 7), (4, 8), (5, 5), (5, 6), (5, 7), (5, 8), (5, 9), (5, 13), (6, 5), (6, 6), (6, 7), (6, 8), (6, 9), (6, 10)] [12, 13, 14, 23, 24, 25, 41, 42, 43, 44, 45, 46, 47, 48, 49, 50, 51, 52, 53, 54, 55, 56, 57, 58, 59, 60, 61, 62, 63, 64, 65, 66] V V := agr.rf
  have alL : agL [1, 6, 14, 44] L L := agL.rf
  have r1 : 0 ≤ ((V 0 6)).toInt ∧ ((V 0 6)).toInt ≤ 1 := hMV 0 6
  have r2 : 0 ≤ ((V 0 7)).toInt ∧ ((V 0 7)).toInt ≤ 1 := hMV 0 7
  refine lv_aload_n hx hb dX11_book_0 rfl (lv_at hl 0 rfl) ?_
  refine va_get (D := D) (ci := 11) (v := .ref (ad 1)) (fs := (xfHouse ad V L Z)) (C := RX11) (T := TX11) (N := 10) hx hb hg inX11 hown hK hP 0 xgHouse rfl 1 (by decide) (hg _ w716) (fun _ h9 => h9) rfl dX11_book_1 ?_
  refine lv_aload_n hx hb dX11_book_4 rfl (lv_at hl 0 rfl) ?_
  refine va_get (D := D) (ci := 11) (v := .ref (ad (38 + Int32.toNatClampNeg (V 0 7)))) (fs := (xfHouse ad V L Z)) (C := RX11) (T := TX11) (N := 10) hx hb hg inX11 hown hK hP 0 xgHouse rfl 7 (by decide) (hg _ w722) (fun _ h9 => h9) rfl dX11_book_5 ?_
  refine g_topv (v := .ref (ad (38 + b1))) (rfP (by omega)) ?_
  refine gA_int (gA_runV (As := [.ref (ad (38 + b1))]) (rest := []) (ci := 1) (q0 := 1) hx hb hml hown hg hP hD hK hS hA hnw hgk (x_read l D ks H.size ad kk V L Z (b1) hMV (show b1 < 2 from by (first | exact om_f940a4667dd6 hb1 | omega))) w758 w759 w760 w162 w761 rfl xgReader hdV_yX1_read ⟨Nat.le_of_ble_eq_true rfl, Nat.le_of_ble_eq_true rfl⟩ rfl hl.1 rfl (Nat.le_of_ble_eq_true rfl) dX11_book_8 ⟨Nat.le_of_ble_eq_true rfl, Nat.le_of_ble_eq_true rfl⟩) hP hD hK hS hA (fun z3 u4 H locs w5 hP hD hK hS => ?_)
  obtain ⟨V7, L8⟩ := u4
  obtain ⟨hMV7, ajV7, axL8, fyV7, t6⟩ := w5
  have alL8 : agL [1, 6, 14, 44] L L8 := agL.tr alL axL8 (by decide)
  have hP : va_P D vwCl (xw ad kk V7 L8 Z) H := hP
  have hD : va_D A (xw ad kk V7 L8 Z) := hD
  have hMV7 : rgd bX V7 := hMV7
  have ajV7 : agr [(1, 1), (1, 2), (1, 3), (1, 4), (1, 6), (1, 7), (1, 8), (6, 6), (6, 7), (6, 8), (6, 9), (6, 10)] [12, 13, 14, 41, 42, 43, 44, 45, 46, 47, 48, 49, 50, 51, 52, 53, 54, 55, 56, 57, 58, 59, 60, 61, 62, 63, 64, 65, 66] V V7 := ajV7
  have agV7 : agr [(0, 6), (0, 7), (0, 8), (0, 9), (1, 1), (1, 2), (1, 3), (1, 4), (1, 6), (1, 7), (1, 8), (2, 7), (3, 12), (3, 13), (3, 14), (3, 15), (4, 5), (4, 6), (4, 7), (4, 8), (5, 5), (5, 6), (5, 7), (5, 8), (5, 9), (5, 13), (6, 5), (6, 6), (6, 7), (6, 8), (6, 9), (6, 10)] [12, 13, 14, 23, 24, 25, 41, 42, 43, 44, 45, 46, 47, 48, 49, 50, 51, 52, 53, 54, 55, 56, 57, 58, 59, 60, 61, 62, 63, 64, 65, 66] V V7 := agV.tr ajV7 (by decide) (by decide)
  have t6 : Imp (z3.toInt = 0) (CD V7 b1 ∧ TX V7 b1) := t6
  refine lv_istore_n (lv' := [(1, .int z3), (0, .ref (ad 0))]) hx hb dX11_book_11 rfl hl (by decide) rfl (fun ls hl => ?_)
  refine lv_aload_n hx hb dX11_book_12 rfl (lv_at hl 1 rfl) ?_
  refine va_get (D := D) (ci := 11) (v := .ref (ad 6)) (fs := (xfHouse ad V7 L8 Z)) (C := RX11) (T := TX11) (N := 10) hx hb hg inX11 hown hK hP 0 xgHouse rfl 0 (by decide) (hg _ w715) (fun _ h9 => h9) rfl dX11_book_13 ?_
  refine gA_void (gA_runV (As := []) (rest := []) (ci := 9) (q0 := 6) hx hb hml hown hg hP hD hK hS hA hnw hgk (x_empty l D ks H.size ad kk V7 L8 Z  hMV7 ) w1019 w1020 w1021 w157 w1022 rfl xgTape hdV_yX9_empty ⟨Nat.le_of_ble_eq_true rfl, Nat.le_of_ble_eq_true rfl⟩ rfl hl.1 rfl (Nat.le_of_ble_eq_true rfl) dX11_book_16 ⟨Nat.le_of_ble_eq_true rfl, Nat.le_of_ble_eq_true rfl⟩) hP hD hK hS hA (fun u10 H locs w11 hP hD hK hS => ?_)
  obtain ⟨V13, L14⟩ := u10
  obtain ⟨hMV13, ajV13, axL14, t12⟩ := w11
  have axL14 : L8 = L14 := Eq.symm axL14
  subst axL14
  have hP : va_P D vwCl (xw ad kk V13 L8 Z) H := hP
  have hD : va_D A (xw ad kk V13 L8 Z) := hD
  have hMV13 : rgd bX V13 := hMV13
  have ajV13 : agr [(6, 5)] [] V7 V13 := ajV13
  have agV13 : agr [(0, 6), (0, 7), (0, 8), (0, 9), (1, 1), (1, 2), (1, 3), (1, 4), (1, 6), (1, 7), (1, 8), (2, 7), (3, 12), (3, 13), (3, 14), (3, 15), (4, 5), (4, 6), (4, 7), (4, 8), (5, 5), (5, 6), (5, 7), (5, 8), (5, 9), (5, 13), (6, 5), (6, 6), (6, 7), (6, 8), (6, 9), (6, 10)] [12, 13, 14, 23, 24, 25, 41, 42, 43, 44, 45, 46, 47, 48, 49, 50, 51, 52, 53, 54, 55, 56, 57, 58, 59, 60, 61, 62, 63, 64, 65, 66] V V13 := agV7.tr ajV13 (by decide) (by decide)
  have t12 : (V13 6 5).toInt = 0 := t12
  have r15 : 0 ≤ ((V13 6 5)).toInt ∧ ((V13 6 5)).toInt ≤ 4000 := hMV13 6 5
  refine lv_iload_n hx hb dX11_book_19 rfl (lv_at hl 0 rfl) ?_
  refine lv_if_eq (tgt := 25) hx hb dX11_book_20 (by decide) (fun c16 => ?_) (fun c16 => ?_)
  · skip
    have f17 : z3.toInt = 0 := b_eq rfl (by decide) c16
    refine lv_aload_n hx hb dX11_book_25 rfl (lv_at hl 1 rfl) ?_
    refine va_get (D := D) (ci := 11) (v := .ref (ad (38 + Int32.toNatClampNeg (V13 0 6)))) (fs := (xfHouse ad V13 L8 Z)) (C := RX11) (T := TX11) (N := 10) hx hb hg inX11 hown hK hP 0 xgHouse rfl 6 (by decide) (hg _ w721) (fun _ h9 => h9) rfl dX11_book_26 ?_
    have pq18 : (V13 0 6).toInt = ((V 0 6)).toInt := congrArg Int32.toInt ((ajV13 0 6 rfl).trans (ajV7 0 6 rfl))
    refine g_topv (v := .ref (ad (38 + b))) (rfP (by omega)) ?_
    refine lv_astore_n (lv' := [(2, .ref (ad (38 + b))), (1, .int z3), (0, .ref (ad 0))]) hx hb dX11_book_29 rfl hl (by decide) rfl (fun ls hl => ?_)
    refine lv_aload_n hx hb dX11_book_30 rfl (lv_at hl 2 rfl) ?_
    refine lv_aload_n hx hb dX11_book_31 rfl (lv_at hl 2 rfl) ?_
    refine va_get (D := D) (ci := 11) (v := .ref (ad (38 + Int32.toNatClampNeg (V13 0 7)))) (fs := (xfHouse ad V13 L8 Z)) (C := RX11) (T := TX11) (N := 10) hx hb hg inX11 hown hK hP 0 xgHouse rfl 7 (by decide) (hg _ w722) (fun _ h9 => h9) rfl dX11_book_32 ?_
    have pq19 : (V13 0 7).toInt = ((V 0 7)).toInt := congrArg Int32.toInt ((ajV13 0 7 rfl).trans (ajV7 0 7 rfl))
    refine g_topv (v := .ref (ad (38 + b1))) (rfP (by omega)) ?_
    refine va_put (D := D) (ci := 11) (v := .ref (ad (38 + b1))) (ty := tyX11 6) (fs := (xfHouse ad V13 L8 Z)) (C := RX11) (T := TX11) (N := 10) hx hb hg inX11 tyX11 tyX11_ok nmX11 hown hK hP hD hS 0 xgHouse rfl 6 (by decide) (hg _ w721) (fun _ h9 => h9) rfl (tyX11_ok 6 (by decide)) rfl rfl (Nat.le_of_ble_eq_true rfl) dX11_book_35 (fun H locs hP hD hS => ?_)
    have r20 : (nI b1).toInt = ((b1 : Nat) : Int) := nI_toInt (by omega)
    obtain ⟨V21, hV21⟩ : ∃ z, z = up2 V13 0 6 (nI b1) := ⟨_, rfl⟩
    have ew22 : (xw ad kk V13 L8 Z).set 0 ((ad 0), .inr (11, (xfHouse ad V13 L8 Z).set 6 (.ref (ad (38 + b1))))) = xw ad kk V21 L8 Z := by rw [hV21]; exact xr_shelf hb1
    have hP : va_P D vwCl (xw ad kk V21 L8 Z) H := by rw [← ew22]; exact hP
    have hD : va_D A (xw ad kk V21 L8 Z) := by rw [← ew22]; exact hD
    have hMV21 : rgd bX V21 := hMV13.put hV21 (show 0 ≤ ((nI b1)).toInt ∧ ((nI b1)).toInt ≤ 1 from by (first | exact om_d98fff7a4861 hb1 r20 | omega))
    have agV21 : agr [(0, 6), (0, 7), (0, 8), (0, 9), (1, 1), (1, 2), (1, 3), (1, 4), (1, 6), (1, 7), (1, 8), (2, 7), (3, 12), (3, 13), (3, 14), (3, 15), (4, 5), (4, 6), (4, 7), (4, 8), (5, 5), (5, 6), (5, 7), (5, 8), (5, 9), (5, 13), (6, 5), (6, 6), (6, 7), (6, 8), (6, 9), (6, 10)] [12, 13, 14, 23, 24, 25, 41, 42, 43, 44, 45, 46, 47, 48, 49, 50, 51, 52, 53, 54, 55, 56, 57, 58, 59, 60, 61, 62, 63, 64, 65, 66] V V21 := agV13.up hV21 rfl
    refine lv_aload_n hx hb dX11_book_38 rfl (lv_at hl 2 rfl) ?_
    refine lv_aload_n hx hb dX11_book_39 rfl (lv_at hl 0 rfl) ?_
    refine va_put (D := D) (ci := 11) (v := .ref (ad (38 + b))) (ty := tyX11 7) (fs := (xfHouse ad V21 L8 Z)) (C := RX11) (T := TX11) (N := 10) hx hb hg inX11 tyX11 tyX11_ok nmX11 hown hK hP hD hS 0 xgHouse rfl 7 (by decide) (hg _ w722) (fun _ h9 => h9) rfl (tyX11_ok 7 (by decide)) rfl rfl (Nat.le_of_ble_eq_true rfl) dX11_book_40 (fun H locs hP hD hS => ?_)
    have r23 : (nI b).toInt = ((b : Nat) : Int) := nI_toInt (by omega)
    obtain ⟨V24, hV24⟩ : ∃ z, z = up2 V21 0 7 (nI b) := ⟨_, rfl⟩
    have ew25 : (xw ad kk V21 L8 Z).set 0 ((ad 0), .inr (11, (xfHouse ad V21 L8 Z).set 7 (.ref (ad (38 + b))))) = xw ad kk V24 L8 Z := by rw [hV24]; exact xr_spare hb2
    have hP : va_P D vwCl (xw ad kk V24 L8 Z) H := by rw [← ew25]; exact hP
    have hD : va_D A (xw ad kk V24 L8 Z) := by rw [← ew25]; exact hD
    have hMV24 : rgd bX V24 := hMV21.put hV24 (show 0 ≤ ((nI b)).toInt ∧ ((nI b)).toInt ≤ 1 from by (first | exact om_cf08f328c789 hb1 hbb r23 | omega))
    have agV24 : agr [(0, 6), (0, 7), (0, 8), (0, 9), (1, 1), (1, 2), (1, 3), (1, 4), (1, 6), (1, 7), (1, 8), (2, 7), (3, 12), (3, 13), (3, 14), (3, 15), (4, 5), (4, 6), (4, 7), (4, 8), (5, 5), (5, 6), (5, 7), (5, 8), (5, 9), (5, 13), (6, 5), (6, 6), (6, 7), (6, 8), (6, 9), (6, 10)] [12, 13, 14, 23, 24, 25, 41, 42, 43, 44, 45, 46, 47, 48, 49, 50, 51, 52, 53, 54, 55, 56, 57, 58, 59, 60, 61, 62, 63, 64, 65, 66] V V24 := agV21.up hV24 rfl
    refine lv_aload_n hx hb dX11_book_43 rfl (lv_at hl 2 rfl) ?_
    refine va_get (D := D) (ci := 11) (v := .ref (ad 3)) (fs := (xfHouse ad V24 L8 Z)) (C := RX11) (T := TX11) (N := 10) hx hb hg inX11 hown hK hP 0 xgHouse rfl 3 (by decide) (hg _ w718) (fun _ h9 => h9) rfl dX11_book_44 ?_
    refine gA_void (gA_runV (As := []) (rest := []) (ci := 8) (q0 := 3) hx hb hml hown hg hP hD hK hS hA hnw hgk (x_sclear2 l D ks H.size ad kk V24 L8 Z  hMV24 ) w1023 w1024 w1025 w164 w1026 rfl xgStock hdV_yX8_clear ⟨Nat.le_of_ble_eq_true rfl, Nat.le_of_ble_eq_true rfl⟩ rfl hl.1 rfl (Nat.le_of_ble_eq_true rfl) dX11_book_47 ⟨Nat.le_of_ble_eq_true rfl, Nat.le_of_ble_eq_true rfl⟩) hP hD hK hS hA (fun u27 H locs w28 hP hD hK hS => ?_)
    obtain ⟨V32, L33⟩ := u27
    obtain ⟨hMV32, ajV32, axL33, t29, t30, t31⟩ := w28
    have axL33 : L8 = L33 := Eq.symm axL33
    subst axL33
    have hP : va_P D vwCl (xw ad kk V32 L8 Z) H := hP
    have hD : va_D A (xw ad kk V32 L8 Z) := hD
    have hMV32 : rgd bX V32 := hMV32
    have ajV32 : agr [(3, 12), (3, 13), (3, 14), (3, 15)] [23, 24, 25] V24 V32 := ajV32
    have agV32 : agr [(0, 6), (0, 7), (0, 8), (0, 9), (1, 1), (1, 2), (1, 3), (1, 4), (1, 6), (1, 7), (1, 8), (2, 7), (3, 12), (3, 13), (3, 14), (3, 15), (4, 5), (4, 6), (4, 7), (4, 8), (5, 5), (5, 6), (5, 7), (5, 8), (5, 9), (5, 13), (6, 5), (6, 6), (6, 7), (6, 8), (6, 9), (6, 10)] [12, 13, 14, 23, 24, 25, 41, 42, 43, 44, 45, 46, 47, 48, 49, 50, 51, 52, 53, 54, 55, 56, 57, 58, 59, 60, 61, 62, 63, 64, 65, 66] V V32 := agV24.tr ajV32 (by decide) (by decide)
    have t29 : (V32 3 13).toInt = 0 := t29
    have t30 : (V32 3 15).toInt = 0 := t30
    have t31 : ∀ q : Nat, q < 960 → (V32 25 q).toInt = -1 := t31
    have r34 : 0 ≤ ((V32 3 13)).toInt ∧ ((V32 3 13)).toInt ≤ 300 := hMV32 3 13
    have r35 : 0 ≤ ((V32 3 15)).toInt ∧ ((V32 3 15)).toInt ≤ 262144 := hMV32 3 15
    refine lv_aload_n hx hb dX11_book_50 rfl (lv_at hl 2 rfl) ?_
    refine va_get (D := D) (ci := 11) (v := .ref (ad 4)) (fs := (xfHouse ad V32 L8 Z)) (C := RX11) (T := TX11) (N := 10) hx hb hg inX11 hown hK hP 0 xgHouse rfl 4 (by decide) (hg _ w719) (fun _ h9 => h9) rfl dX11_book_51 ?_
    refine gA_void (gA_runV (As := []) (rest := []) (ci := 7) (q0 := 4) hx hb hml hown hg hP hD hK hS hA hnw hgk (x_Nclear l D ks H.size ad kk V32 L8 Z  hMV32 ) w1031 w1032 w1033 w166 w1034 rfl xgNotes hdV_yX7_clear ⟨Nat.le_of_ble_eq_true rfl, Nat.le_of_ble_eq_true rfl⟩ rfl hl.1 rfl (Nat.le_of_ble_eq_true rfl) dX11_book_54 ⟨Nat.le_of_ble_eq_true rfl, Nat.le_of_ble_eq_true rfl⟩) hP hD hK hS hA (fun u37 H locs w38 hP hD hK hS => ?_)
    obtain ⟨V39, L40⟩ := u37
    obtain ⟨hMV39, ajV39, axL40⟩ := w38
    have axL40 : L8 = L40 := Eq.symm axL40
    subst axL40
    have hP : va_P D vwCl (xw ad kk V39 L8 Z) H := hP
    have hD : va_D A (xw ad kk V39 L8 Z) := hD
    have hMV39 : rgd bX V39 := hMV39
    have ajV39 : agr [(4, 5), (4, 6), (4, 7), (4, 8)] [] V32 V39 := ajV39
    have agV39 : agr [(0, 6), (0, 7), (0, 8), (0, 9), (1, 1), (1, 2), (1, 3), (1, 4), (1, 6), (1, 7), (1, 8), (2, 7), (3, 12), (3, 13), (3, 14), (3, 15), (4, 5), (4, 6), (4, 7), (4, 8), (5, 5), (5, 6), (5, 7), (5, 8), (5, 9), (5, 13), (6, 5), (6, 6), (6, 7), (6, 8), (6, 9), (6, 10)] [12, 13, 14, 23, 24, 25, 41, 42, 43, 44, 45, 46, 47, 48, 49, 50, 51, 52, 53, 54, 55, 56, 57, 58, 59, 60, 61, 62, 63, 64, 65, 66] V V39 := agV32.tr ajV39 (by decide) (by decide)
    refine lv_aload_n hx hb dX11_book_57 rfl (lv_at hl 2 rfl) ?_
    refine va_get (D := D) (ci := 11) (v := .ref (ad 2)) (fs := (xfHouse ad V39 L8 Z)) (C := RX11) (T := TX11) (N := 10) hx hb hg inX11 hown hK hP 0 xgHouse rfl 2 (by decide) (hg _ w717) (fun _ h9 => h9) rfl dX11_book_58 ?_
    refine gA_void (gA_runV (As := []) (rest := []) (ci := 2) (q0 := 2) hx hb hml hown hg hP hD hK hS hA hnw hgk (x_kclear7 l D ks H.size ad kk V39 L8 Z  hMV39 ) w1035 w1036 w1037 w163 w1038 rfl xgChecker hdV_yX2_clear ⟨Nat.le_of_ble_eq_true rfl, Nat.le_of_ble_eq_true rfl⟩ rfl hl.1 rfl (Nat.le_of_ble_eq_true rfl) dX11_book_61 ⟨Nat.le_of_ble_eq_true rfl, Nat.le_of_ble_eq_true rfl⟩) hP hD hK hS hA (fun u42 H locs w43 hP hD hK hS => ?_)
    obtain ⟨V45, L46⟩ := u42
    obtain ⟨hMV45, ajV45, axL46, t44⟩ := w43
    have axL46 : L8 = L46 := Eq.symm axL46
    subst axL46
    have hP : va_P D vwCl (xw ad kk V45 L8 Z) H := hP
    have hD : va_D A (xw ad kk V45 L8 Z) := hD
    have hMV45 : rgd bX V45 := hMV45
    have ajV45 : agr [(2, 7)] [] V39 V45 := ajV45
    have agV45 : agr [(0, 6), (0, 7), (0, 8), (0, 9), (1, 1), (1, 2), (1, 3), (1, 4), (1, 6), (1, 7), (1, 8), (2, 7), (3, 12), (3, 13), (3, 14), (3, 15), (4, 5), (4, 6), (4, 7), (4, 8), (5, 5), (5, 6), (5, 7), (5, 8), (5, 9), (5, 13), (6, 5), (6, 6), (6, 7), (6, 8), (6, 9), (6, 10)] [12, 13, 14, 23, 24, 25, 41, 42, 43, 44, 45, 46, 47, 48, 49, 50, 51, 52, 53, 54, 55, 56, 57, 58, 59, 60, 61, 62, 63, 64, 65, 66] V V45 := agV39.tr ajV45 (by decide) (by decide)
    have t44 : (V45 2 7).toInt = 0 := t44
    have r47 : 0 ≤ ((V45 2 7)).toInt ∧ ((V45 2 7)).toInt ≤ 1000000 := hMV45 2 7
    refine lv_aload_n hx hb dX11_book_64 rfl (lv_at hl 2 rfl) ?_
    refine va_get (D := D) (ci := 11) (v := .ref (ad 5)) (fs := (xfHouse ad V45 L8 Z)) (C := RX11) (T := TX11) (N := 10) hx hb hg inX11 hown hK hP 0 xgHouse rfl 5 (by decide) (hg _ w720) (fun _ h9 => h9) rfl dX11_book_65 ?_
    refine lv_aload_n hx hb dX11_book_68 rfl (lv_at hl 2 rfl) ?_
    refine va_get (D := D) (ci := 11) (v := .ref (ad (38 + Int32.toNatClampNeg (V45 0 6)))) (fs := (xfHouse ad V45 L8 Z)) (C := RX11) (T := TX11) (N := 10) hx hb hg inX11 hown hK hP 0 xgHouse rfl 6 (by decide) (hg _ w721) (fun _ h9 => h9) rfl dX11_book_69 ?_
    have pq48 : (V45 0 6).toInt = ((nI b1)).toInt := congrArg Int32.toInt ((ajV45 0 6 rfl).trans ((ajV39 0 6 rfl).trans ((ajV32 0 6 rfl).trans ((up2_k hV24 (by decide)).trans (up2_s hV21)))))
    refine g_topv (v := .ref (ad (38 + b1))) (rfP (by omega)) ?_
    refine gA_void (gA_runV (As := [.ref (ad (38 + b1))]) (rest := []) (ci := 5) (q0 := 5) hx hb hml hown hg hP hD hK hS hA hnw hgk (x_takeBook l D ks H.size ad kk V45 L8 Z (b1) hMV45 (show b1 < 2 from by (first | exact om_f940a4667dd6 hb1 | omega))) w1039 w1040 w1041 w171 w1042 rfl xgMachine hdV_yX5_takeBook ⟨Nat.le_of_ble_eq_true rfl, Nat.le_of_ble_eq_true rfl⟩ rfl hl.1 rfl (Nat.le_of_ble_eq_true rfl) dX11_book_72 ⟨Nat.le_of_ble_eq_true rfl, Nat.le_of_ble_eq_true rfl⟩) hP hD hK hS hA (fun u50 H locs w51 hP hD hK hS => ?_)
    obtain ⟨V54, L55⟩ := u50
    obtain ⟨hMV54, ajV54, axL55, t52, t53⟩ := w51
    have axL55 : L8 = L55 := Eq.symm axL55
    subst axL55
    have hP : va_P D vwCl (xw ad kk V54 L8 Z) H := hP
    have hD : va_D A (xw ad kk V54 L8 Z) := hD
    have hMV54 : rgd bX V54 := hMV54
    have ajV54 : agr [(5, 5), (5, 6), (5, 7), (5, 8), (5, 9), (5, 13)] [] V45 V54 := ajV54
    have agV54 : agr [(0, 6), (0, 7), (0, 8), (0, 9), (1, 1), (1, 2), (1, 3), (1, 4), (1, 6), (1, 7), (1, 8), (2, 7), (3, 12), (3, 13), (3, 14), (3, 15), (4, 5), (4, 6), (4, 7), (4, 8), (5, 5), (5, 6), (5, 7), (5, 8), (5, 9), (5, 13), (6, 5), (6, 6), (6, 7), (6, 8), (6, 9), (6, 10)] [12, 13, 14, 23, 24, 25, 41, 42, 43, 44, 45, 46, 47, 48, 49, 50, 51, 52, 53, 54, 55, 56, 57, 58, 59, 60, 61, 62, 63, 64, 65, 66] V V54 := agV45.tr ajV54 (by decide) (by decide)
    have t52 : (V54 5 5).toInt = (b1 : Int) := t52
    have t53 : (V54 5 6).toInt = 0 := t53
    have r56 : 0 ≤ ((V54 5 5)).toInt ∧ ((V54 5 5)).toInt ≤ 1 := hMV54 5 5
    have r57 : 0 ≤ ((V54 5 6)).toInt ∧ ((V54 5 6)).toInt ≤ 400 := hMV54 5 6
    refine lv_aload_n hx hb dX11_book_75 rfl (lv_at hl 2 rfl) ?_
    refine lv_iconst (v := 0) hx hb dX11_book_76 (by decide) ?_
    refine va_put (D := D) (ci := 11) (v := .int 0) (ty := tyX11 8) (fs := (xfHouse ad V54 L8 Z)) (C := RX11) (T := TX11) (N := 10) hx hb hg inX11 tyX11 tyX11_ok nmX11 hown hK hP hD hS 0 xgHouse rfl 8 (by decide) (hg _ w723) (fun _ h9 => h9) rfl (tyX11_ok 8 (by decide)) rfl rfl (Nat.le_of_ble_eq_true rfl) dX11_book_77 (fun H locs hP hD hS => ?_)
    obtain ⟨V58, hV58⟩ : ∃ z, z = up2 V54 0 8 0 := ⟨_, rfl⟩
    have ew59 : (xw ad kk V54 L8 Z).set 0 ((ad 0), .inr (11, (xfHouse ad V54 L8 Z).set 8 (.int 0))) = xw ad kk V58 L8 Z := by rw [hV58]; exact xw_ss (by decide) rfl (xb_si (by decide))
    have hP : va_P D vwCl (xw ad kk V58 L8 Z) H := by rw [← ew59]; exact hP
    have hD : va_D A (xw ad kk V58 L8 Z) := by rw [← ew59]; exact hD
    have hMV58 : rgd bX V58 := hMV54.put hV58 (by decide)
    have agV58 : agr [(0, 6), (0, 7), (0, 8), (0, 9), (1, 1), (1, 2), (1, 3), (1, 4), (1, 6), (1, 7), (1, 8), (2, 7), (3, 12), (3, 13), (3, 14), (3, 15), (4, 5), (4, 6), (4, 7), (4, 8), (5, 5), (5, 6), (5, 7), (5, 8), (5, 9), (5, 13), (6, 5), (6, 6), (6, 7), (6, 8), (6, 9), (6, 10)] [12, 13, 14, 23, 24, 25, 41, 42, 43, 44, 45, 46, 47, 48, 49, 50, 51, 52, 53, 54, 55, 56, 57, 58, 59, 60, 61, 62, 63, 64, 65, 66] V V58 := agV54.up hV58 rfl
    refine lv_aload_n hx hb dX11_book_80 rfl (lv_at hl 2 rfl) ?_
    refine lv_iconst (v := 0) hx hb dX11_book_81 (by decide) ?_
    refine va_put (D := D) (ci := 11) (v := .int 0) (ty := tyX11 9) (fs := (xfHouse ad V58 L8 Z)) (C := RX11) (T := TX11) (N := 10) hx hb hg inX11 tyX11 tyX11_ok nmX11 hown hK hP hD hS 0 xgHouse rfl 9 (by decide) (hg _ w724) (fun _ h9 => h9) rfl (tyX11_ok 9 (by decide)) rfl rfl (Nat.le_of_ble_eq_true rfl) dX11_book_82 (fun H locs hP hD hS => ?_)
    obtain ⟨V60, hV60⟩ : ∃ z, z = up2 V58 0 9 0 := ⟨_, rfl⟩
    have ew61 : (xw ad kk V58 L8 Z).set 0 ((ad 0), .inr (11, (xfHouse ad V58 L8 Z).set 9 (.int 0))) = xw ad kk V60 L8 Z := by rw [hV60]; exact xw_ss (by decide) rfl (xb_si (by decide))
    have hP : va_P D vwCl (xw ad kk V60 L8 Z) H := by rw [← ew61]; exact hP
    have hD : va_D A (xw ad kk V60 L8 Z) := by rw [← ew61]; exact hD
    have hMV60 : rgd bX V60 := hMV58.put hV60 (i_full _)
    have agV60 : agr [(0, 6), (0, 7), (0, 8), (0, 9), (1, 1), (1, 2), (1, 3), (1, 4), (1, 6), (1, 7), (1, 8), (2, 7), (3, 12), (3, 13), (3, 14), (3, 15), (4, 5), (4, 6), (4, 7), (4, 8), (5, 5), (5, 6), (5, 7), (5, 8), (5, 9), (5, 13), (6, 5), (6, 6), (6, 7), (6, 8), (6, 9), (6, 10)] [12, 13, 14, 23, 24, 25, 41, 42, 43, 44, 45, 46, 47, 48, 49, 50, 51, 52, 53, 54, 55, 56, 57, 58, 59, 60, 61, 62, 63, 64, 65, 66] V V60 := agV58.up hV60 rfl
    refine lv_iconst (v := 0) hx hb dX11_book_85 (by decide) ?_
    have pq62 : (V60 2 7).toInt = ((V45 2 7)).toInt := congrArg Int32.toInt ((up2_o hV60 (by decide)).trans ((up2_o hV58 (by decide)).trans (ajV54 2 7 rfl)))
    exact W.iret (v := 0) hx hb hr (fun t ht hW => ⟨⟨0, (V60, L8), rfl, ⟨hMV60, agV60, alL8, (show (0 = 0 ∧ (V60 2 7).toInt = 0) ∨ (0 ≠ 0 ∧ (V60 2 7).toInt = (V 2 7).toInt) from by omega)⟩, by rw [ht]; exact hP, va_K.moved hW.alike hK, hD⟩, hS.F ht⟩) hS.2.2 dX11_book_86
  · skip
    have f63 : z3.toInt ≠ 0 := b_neq rfl (by decide) c16
    refine lv_iload_n hx hb dX11_book_23 rfl (lv_at hl 0 rfl) ?_
    have pq64 : (V13 2 7).toInt = ((V 2 7)).toInt := congrArg Int32.toInt ((ajV13 2 7 rfl).trans (ajV7 2 7 rfl))
    have r65 : 0 ≤ ((V 2 7)).toInt ∧ ((V 2 7)).toInt ≤ 1000000 := hMV 2 7
    exact W.iret (v := z3) hx hb hr (fun t ht hW => ⟨⟨z3, (V13, L8), rfl, ⟨hMV13, agV13, alL8, (show (z3.toInt = 0 ∧ (V13 2 7).toInt = 0) ∨ (z3.toInt ≠ 0 ∧ (V13 2 7).toInt = (V 2 7).toInt) from by omega)⟩, by rw [ht]; exact hP, va_K.moved hW.alike hK, hD⟩, hS.F ht⟩) hS.2.2 dX11_book_24
abbrev r_s_forget7 : Room := { frames := 0, cells := 0, slots := 0, locals := 0 }
abbrev q_s_forget7 (D : va_G) (ks : KS) (ad : Nat → Nat) (kk : Nat → ClassId) (V : Vf) (L : Lf) (A : Nat → Prop) : Array Value → State → Outcome → State → Prop := va_Qv (fun (u : Vf × Lf) => rgd bM u.1 ∧ agr [(0, 54), (0, 55), (0, 60), (0, 65), (0, 69), (0, 70), (0, 71), (0, 72), (0, 73), (0, 76), (0, 81)] [56, 57, 59] V u.1 ∧ u.2 = L ∧ ((u.1 0 60).toInt = 0 ∧ (u.1 0 54).toInt = 0 ∧ (u.1 0 65).toInt = 0 ∧ (u.1 0 73).toInt = 0 ∧ (u.1 0 76).toInt = 0) ∧ ((u.1 0 55).toInt = 1) ∧ ((u.1 0 81).toInt = 0)) (fun u t => gq D A (mw ad kk ks.1 u.1 u.2) (mty kk) t) A
end
section
/-! the lowest bit -/
def LOB (n a : Nat) : Prop := n.testBit a = true ∧ ∀ i, i < a → n.testBit i = false
theorem LOB.mod {n a : Nat} (h : LOB n a) : n % 2 ^ (a + 1) = 2 ^ a := by
  apply Nat.eq_of_testBit_eq
  intro i
  rw [Nat.testBit_mod_two_pow, Nat.testBit_two_pow]
  by_cases c : i < a
  · rw [h.2 i c, Bool.and_false]
    exact (decide_eq_false (by omega)).symm
  · by_cases d : i = a
    · subst d
      rw [h.1, decide_eq_true (show i < i + 1 from by omega), decide_eq_true (show i = i from rfl)]
      rfl
    · rw [decide_eq_false (show ¬ i < a + 1 from by omega), decide_eq_false (show ¬ a = i from by omega)]
      rfl
theorem LOB.sub {n a : Nat} (h : LOB n a) : n - 1 = 2 ^ (a + 1) * (n / 2 ^ (a + 1)) + (2 ^ a - 1) := by
  have m := h.mod
  have d := Nat.div_add_mod n (2 ^ (a + 1))
  have p := Nat.two_pow_pos a
  rw [m] at d
  omega
theorem LOB.bit {n a : Nat} (h : LOB n a) (i : Nat) : (n - 1).testBit i = if i < a then true else if i = a then false else n.testBit i := by
  have p := Nat.two_pow_pos a
  have q : 2 ^ a - 1 < 2 ^ (a + 1) := by
    rw [Nat.pow_succ]
    omega
  rw [h.sub, Nat.testBit_two_pow_mul_add _ q i]
  by_cases c : i < a + 1
  · rw [if_pos c, Nat.testBit_two_pow_sub_one]
    by_cases d : i < a
    · rw [if_pos d, decide_eq_true d]
    · rw [if_neg d, if_pos (show i = a from by omega), decide_eq_false d]
  · rw [if_neg c, if_neg (by omega), if_neg (by omega), Nat.testBit_div_two_pow, show i - (a + 1) + (a + 1) = i from by omega]
theorem LOB.clr {n a : Nat} (h : LOB n a) (i : Nat) : (n &&& (n - 1)).testBit i = (n.testBit i && decide (i ≠ a)) := by
  rw [Nat.testBit_and, h.bit]
  by_cases c : i < a
  · rw [if_pos c, h.2 i c]
    rfl
  · by_cases d : i = a
    · rw [if_neg c, if_pos d, decide_eq_false (fun w => w d)]
    · rw [if_neg c, if_neg d, decide_eq_true d, Bool.and_self, Bool.and_true]
/-- a set of bits is a list -/
def SBL (x : Int32) (l : List Nat) : Prop := (0 ≤ x.toInt ∧ x.toInt < 16777216) ∧ (∀ g, g < 24 → (bt x g = true ↔ g ∈ l)) ∧ l.Pairwise (· < ·) ∧ ∀ g, g ∈ l → g < 24
theorem SBL.lob {x : Int32} {a : Nat} {l : List Nat} (h : SBL x (a :: l)) : LOB x.toInt.toNat a := by
  have a24 := h.2.2.2 a List.mem_cons_self
  refine ⟨?_, fun i hi => ?_⟩
  · rw [← bt_n h.1]
    exact (h.2.1 a a24).mpr List.mem_cons_self
  · rw [← bt_n h.1]
    cases e : bt x i
    · rfl
    · have z := (h.2.1 i (by omega)).mp e
      have p := List.pairwise_cons.mp h.2.2.1
      rcases List.mem_cons.mp z with y | y
      · omega
      · have := p.1 i y
        omega
theorem SBL.nil {x : Int32} {l : List Nat} (h : SBL x l) (e : x.toInt = 0) : l = [] := by
  cases l with
  | nil => rfl
  | cons a l =>
    have z := h.lob.1
    rw [e] at z
    rw [show Int.toNat 0 = 0 from rfl, Nat.zero_testBit] at z
    exact absurd z Bool.false_ne_true
theorem SBL.cons {x : Int32} {l : List Nat} (h : SBL x l) (e : x.toInt ≠ 0) : ∃ a t, l = a :: t := by
  cases l with
  | cons a t => exact ⟨a, t, rfl⟩
  | nil =>
    exfalso
    apply e
    have z : x.toInt.toNat = 0 := by
      apply Nat.eq_of_testBit_eq
      intro i
      rw [Nat.zero_testBit]
      rcases Nat.lt_or_ge i 24 with a | a
      · rw [← bt_n h.1]
        cases c : bt x i
        · rfl
        · exact absurd ((h.2.1 i a).mp c) List.not_mem_nil
      · exact Nat.testBit_lt_two_pow (Nat.lt_of_lt_of_le (show x.toInt.toNat < 2 ^ 24 from by have := h.1; omega) (Nat.pow_le_pow_right (by decide) a))
    have := h.1
    omega
theorem SBL.clr {x c z : Int32} {a : Nat} {l : List Nat} (h : SBL x (a :: l)) (e1 : c = x - 1) (e2 : z = x &&& c) : SBL z l := by
  have o := h.lob
  have x1 : 0 < x.toInt := by
    rcases (show x.toInt = 0 ∨ 0 < x.toInt from by have := h.1; omega) with q | q
    · exact absurd (h.nil q) (by simp)
    · exact q
  have x2 := h.1
  have ec : c.toInt = x.toInt - 1 := i_sub e1 rfl (by decide) (by omega)
  have ax := bn_of (x := x) (n := 16777216) h.1
  have ac := bn_of (x := c) (n := 16777216) ⟨by omega, by omega⟩
  have az : z.toBitVec.toNat = x.toBitVec.toNat &&& c.toBitVec.toNat := by
    rw [e2]
    show (x.toBitVec &&& c.toBitVec).toNat = _
    rw [BitVec.toNat_and]
  have a1 : x.toBitVec.toNat &&& c.toBitVec.toNat ≤ x.toBitVec.toNat := Nat.and_le_left
  have b := bn_to (x := z) (n := 16777216) (by omega) (by decide)
  have hz : 0 ≤ z.toInt ∧ z.toInt < 16777216 := ⟨b.1, b.2.1⟩
  have en : z.toInt.toNat = x.toInt.toNat &&& (x.toInt.toNat - 1) := by
    rw [show z.toInt.toNat = z.toBitVec.toNat from by omega, az, show x.toBitVec.toNat = x.toInt.toNat from by omega, show c.toBitVec.toNat = x.toInt.toNat - 1 from by omega]
  have p := List.pairwise_cons.mp h.2.2.1
  refine ⟨hz, fun g hg => ?_, p.2, fun g hg => h.2.2.2 g (List.mem_cons_of_mem _ hg)⟩
  rw [bt_n hz, en, o.clr, Bool.and_eq_true, decide_eq_true_iff, ← bt_n h.1, h.2.1 g hg, List.mem_cons]
  constructor
  · rintro ⟨q | q, w⟩
    · exact absurd q w
    · exact q
  · intro q
    exact ⟨Or.inr q, fun w => by have := p.1 g q; omega⟩
theorem b_not (x : Int32) {i : Nat} (hi : i < 32) : bt (x ^^^ (-1)) i = !bt x i := by
  unfold bt
  show (x.toBitVec ^^^ BitVec.allOnes 32).getLsbD i = _
  rw [BitVec.getLsbD_xor, BitVec.getLsbD_allOnes, decide_eq_true hi, Bool.xor_true]
/-- what numberOfTrailingZeros makes of it first -/
theorem LOB.y {x a c y : Int32} {k : Nat} (hx : 0 < x.toInt ∧ x.toInt < 16777216) (o : LOB x.toInt.toNat k) (e1 : a = x ^^^ (-1)) (e2 : c = x - 1) (e3 : y = a &&& c) : y.toInt = ((2 ^ k - 1 : Nat) : Int) := by
  have z := ntz_y e1 e2 e3 hx.1
  have ec : c.toInt = x.toInt - 1 := i_sub e2 rfl (by decide) (by (first | exact om_54d8851a11a3 hx.1 hx.2 | omega))
  have y24 : 0 ≤ y.toInt ∧ y.toInt < 16777216 := ⟨z.1, by omega⟩
  have en : y.toInt.toNat = 2 ^ k - 1 := by
    apply Nat.eq_of_testBit_eq
    intro i
    rw [Nat.testBit_two_pow_sub_one]
    rcases Nat.lt_or_ge i 32 with h | h
    · rw [← bt_n y24, e3, b_and, e1, b_not x h, bt_n ⟨by omega, hx.2⟩, bt_n (x := c) ⟨by omega, by omega⟩, show c.toInt.toNat = x.toInt.toNat - 1 from by omega, o.bit]
      by_cases d : i < k
      · rw [if_pos d, o.2 i d, decide_eq_true d]
        rfl
      · by_cases w : i = k
        · rw [if_neg d, if_pos w, Bool.and_false, decide_eq_false d]
        · rw [if_neg d, if_neg w, Bool.not_and_self, decide_eq_false d]
    · rw [Nat.testBit_lt_two_pow (Nat.lt_of_lt_of_le (show y.toInt.toNat < 2 ^ 24 from by omega) (Nat.pow_le_pow_right (by decide) (by omega)))]
      have k24 : k < 24 := by
        rcases Nat.lt_or_ge k 24 with q | q
        · exact q
        · have w := o.1
          rw [Nat.testBit_lt_two_pow (Nat.lt_of_lt_of_le (show x.toInt.toNat < 2 ^ 24 from by omega) (Nat.pow_le_pow_right (by decide) q))] at w
          exact absurd w Bool.false_ne_true
      exact (decide_eq_false (by omega)).symm
  omega
theorem pw_all : ∀ k : Fin 24, (2 ^ k.val - 1 = 0 ∧ k.val = 0) ∨ (2 ^ k.val - 1 = 1 ∧ k.val = 1) ∨ (2 ^ k.val - 1 = 3 ∧ k.val = 2) ∨ (2 ^ k.val - 1 = 7 ∧ k.val = 3) ∨ (2 ^ k.val - 1 = 15 ∧ k.val = 4) ∨ (2 ^ k.val - 1 = 31 ∧ k.val = 5) ∨ (2 ^ k.val - 1 = 63 ∧ k.val = 6) ∨ (2 ^ k.val - 1 = 127 ∧ k.val = 7) ∨ (2 ^ k.val - 1 = 255 ∧ k.val = 8) ∨ (2 ^ k.val - 1 = 511 ∧ k.val = 9) ∨ (2 ^ k.val - 1 = 1023 ∧ k.val = 10) ∨ (2 ^ k.val - 1 = 2047 ∧ k.val = 11) ∨ (2 ^ k.val - 1 = 4095 ∧ k.val = 12) ∨ (2 ^ k.val - 1 = 8191 ∧ k.val = 13) ∨ (2 ^ k.val - 1 = 16383 ∧ k.val = 14) ∨ (2 ^ k.val - 1 = 32767 ∧ k.val = 15) ∨ (2 ^ k.val - 1 = 65535 ∧ k.val = 16) ∨ (2 ^ k.val - 1 = 131071 ∧ k.val = 17) ∨ (2 ^ k.val - 1 = 262143 ∧ k.val = 18) ∨ (2 ^ k.val - 1 = 524287 ∧ k.val = 19) ∨ (2 ^ k.val - 1 = 1048575 ∧ k.val = 20) ∨ (2 ^ k.val - 1 = 2097151 ∧ k.val = 21) ∨ (2 ^ k.val - 1 = 4194303 ∧ k.val = 22) ∨ (2 ^ k.val - 1 = 8388607 ∧ k.val = 23) := by decide +kernel
/-- the n-th of a list, or -1 -/
def nth (l : List Nat) (i : Nat) : Int := match l[i]? with
  | some a => ((a : Nat) : Int)
  | none => -1
theorem nth_y {l : List Nat} {i a : Nat} (h : l[i]? = some a) : nth l i = ((a : Nat) : Int) := by
  unfold nth
  rw [h]
theorem nth_n {l : List Nat} {i : Nat} (h : l.length ≤ i) : nth l i = -1 := by
  unfold nth
  rw [List.getElem?_eq_none h]
theorem drop_hd {l t : List Nat} {k a : Nat} (h : l.drop k = a :: t) : l[k]? = some a ∧ l.drop (k + 1) = t := by
  constructor
  · have z := congrArg (fun x => x[0]?) h
    simpa [List.getElem?_drop] using z
  · rw [← List.tail_drop, h]
    rfl
theorem SBL.of {x : Int32} {f : Nat → Nat} {sv : Nat → Int} {kd t ca m : Nat} (h : FND x f sv kd t ca m) (hx : 0 ≤ x.toInt ∧ x.toInt ≤ 16777215) (hm : m ≤ 24) : SBL x (CLP f sv kd t ca m m) := by
  have lt : ∀ g, g ∈ CLP f sv kd t ca m m → g < m := fun g hg => by
    unfold CLP at hg
    exact List.mem_range.mp (List.mem_filter.mp hg).1
  refine ⟨⟨hx.1, by omega⟩, fun g hg => ?_, ?_, fun g hg => Nat.lt_of_lt_of_le (lt g hg) hm⟩
  · constructor
    · intro b
      have z := (h g hg).mp b
      exact (h.mem hm z.1).mp b
    · intro q
      exact (h.mem hm (lt g q)).mpr q
  · unfold CLP
    exact List.Pairwise.filter _ List.pairwise_lt_range
/-- what candidate() answers -/
def cnA (f : Nat → Nat) (sv : Nat → Int) (m : Nat) (c j i : Int) : Int := if 0 ≤ c ∧ c < (m : Int) ∧ 0 ≤ j ∧ j < ((f (66 + 8 * c.toNat) : Nat) : Int) ∧ 0 ≤ i then nth (clF f sv m c.toNat j.toNat) i.toNat else -1
theorem cnA_n {f : Nat → Nat} {sv : Nat → Int} {m : Nat} {c j i : Int} (h : ¬ (0 ≤ c ∧ c < (m : Int) ∧ 0 ≤ j ∧ j < ((f (66 + 8 * c.toNat) : Nat) : Int) ∧ 0 ≤ i)) : cnA f sv m c j i = -1 := if_neg h
theorem cnA_y {f : Nat → Nat} {sv : Nat → Int} {m a b k : Nat} {c j i : Int} (hc : c = (a : Int)) (hj : j = (b : Int)) (hi : i = (k : Int)) (h1 : a < m) (h2 : b < f (66 + 8 * a)) : cnA f sv m c j i = nth (clF f sv m a b) k := by
  subst hc hj hi
  unfold cnA
  rw [if_pos ⟨by omega, by omega, by omega, (show ((b : Nat) : Int) < ((f (66 + 8 * a) : Nat) : Int) from by omega), by omega⟩]
  rfl
theorem lob24 {n k : Nat} (o : LOB n k) (h : n < 16777216) : k < 24 := by
  rcases Nat.lt_or_ge k 24 with q | q
  · exact q
  · have w := o.1
    rw [Nat.testBit_lt_two_pow (Nat.lt_of_lt_of_le (show n < 2 ^ 24 from h) (Nat.pow_le_pow_right (by decide) q))] at w
    exact absurd w Bool.false_ne_true


abbrev r_x_nTZ10 : Room := { frames := 0, cells := 0, slots := 0, locals := 0 }
abbrev q_x_nTZ10 (D : va_G) (p0 : Int32) (gk : Nat) (A : Nat → Prop) : Array Value → State → Outcome → State → Prop := va_Qi (fun (r : Int32) (_ : Unit) => (0 ≤ r.toInt ∧ r.toInt ≤ 32) ∧ (r.toInt = ((gk : Nat) : Int))) (fun _ t => gq D A [] [] t) A
set_option maxHeartbeats 4000000 in
set_option maxRecDepth 100000 in
theorem x_nTZ10 (l : Launch) (D : va_G) (ks : KS) (sz : Nat) (p0 : Int32) (gk : Nat) (rg_p0 : 1 ≤ p0.toInt ∧ p0.toInt ≤ 16777215) (lob : LOB p0.toInt.toNat gk)  : Met l yJ6_numberOfTrailingZeros_0f7a4 (Cond.code yJ6_numberOfTrailingZeros_0f7a4 cJ6_numberOfTrailingZeros_0f7a4 2 (some .int) :: GW) r_x_nTZ10 (va_Pc [.int p0] (gp D ks ([]) ([]) sz)) (q_x_nTZ10 D p0 gk (va_A ([]) sz)) 0 0 (va_A ([]) sz) := by
  refine g_met (q_x_nTZ10 D p0 gk) (by decide) (Nat.le_of_ble_eq_true rfl) ?_
  intro p e s m below meth c A ls H locs hx hb hr hml hown hg hlocks hin hnw hgk hP hK hD hS hA hl
  have hown : s.vm.findClass RJ6 = some m.cls := hown
  have hl : lv_has ls 2 [(0, .int p0)] := hl
  refine lv_iload_n hx hb dJ6_numberOfTrailingZeros_0f7a4_0 rfl (lv_at hl 0 rfl) ?_
  refine lv_iconst (v := (-1)) hx hb dJ6_numberOfTrailingZeros_0f7a4_1 (by decide) ?_
  refine lv_ixor hx hb dJ6_numberOfTrailingZeros_0f7a4_2 ?_
  refine lv_topi (fun z1 ez1 => ?_)
  refine lv_iload_n hx hb dJ6_numberOfTrailingZeros_0f7a4_3 rfl (lv_at hl 0 rfl) ?_
  refine lv_iconst (v := 1) hx hb dJ6_numberOfTrailingZeros_0f7a4_4 (by decide) ?_
  refine lv_isub hx hb dJ6_numberOfTrailingZeros_0f7a4_5 ?_
  refine lv_topi (fun z2 ez2 => ?_)
  have hz2 : z2.toInt = p0.toInt - 1 := i_sub ez2 rfl (by decide) (by (first | exact om_118454f04e3b rg_p0.1 rg_p0.2 | omega))
  refine lv_iand hx hb dJ6_numberOfTrailingZeros_0f7a4_6 ?_
  refine lv_topi (fun z3 ez3 => ?_)
  have nyf := LOB.y (by omega) lob ez1 ez2 ez3
  have k24 : gk < 24 := lob24 lob (by (first | exact om_59466d5d1481 rg_p0.1 rg_p0.2 | omega))
  have pwa : _ := pw_all ⟨gk, k24⟩
  simp only [] at pwa
  refine lv_istore_n (lv' := [(0, .int z3)]) hx hb dJ6_numberOfTrailingZeros_0f7a4_7 rfl hl (by decide) rfl (fun ls hl => ?_)
  refine lv_iload_n hx hb dJ6_numberOfTrailingZeros_0f7a4_8 rfl (lv_at hl 0 rfl) ?_
  refine lv_if_gt (tgt := 17) hx hb dJ6_numberOfTrailingZeros_0f7a4_9 (by decide) (fun c4 => ?_) (fun c4 => ?_)
  · skip
    have f5 : 0 < z3.toInt := b_lt (by decide) rfl c4
    refine lv_iconst (v := 1) hx hb dJ6_numberOfTrailingZeros_0f7a4_17 (by decide) ?_
    refine lv_istore_n (lv' := [(1, .int 1), (0, .int z3)]) hx hb dJ6_numberOfTrailingZeros_0f7a4_18 rfl hl (by decide) rfl (fun ls hl => ?_)
    refine lv_iload_n hx hb dJ6_numberOfTrailingZeros_0f7a4_19 rfl (lv_at hl 1 rfl) ?_
    refine lv_ldcw (v := 65536) hx hb hown (hg _ w1145) dJ6_numberOfTrailingZeros_0f7a4_20 ?_
    refine lv_icmp_le (tgt := 34) hx hb dJ6_numberOfTrailingZeros_0f7a4_23 (by decide) (fun c6 => ?_) (fun c6 => ?_)
    · skip
      have f7 : z3.toInt ≤ 65536 := b_le rfl (by decide) c6
      refine lv_iload_n hx hb dJ6_numberOfTrailingZeros_0f7a4_34 rfl (lv_at hl 1 rfl) ?_
      refine lv_sipush (v := 256) hx hb dJ6_numberOfTrailingZeros_0f7a4_35 (by decide) ?_
      refine lv_icmp_le (tgt := 49) hx hb dJ6_numberOfTrailingZeros_0f7a4_38 (by decide) (fun c8 => ?_) (fun c8 => ?_)
      · skip
        have f9 : z3.toInt ≤ 256 := b_le rfl (by decide) c8
        refine lv_iload_n hx hb dJ6_numberOfTrailingZeros_0f7a4_49 rfl (lv_at hl 1 rfl) ?_
        refine lv_bipush (v := 16) hx hb dJ6_numberOfTrailingZeros_0f7a4_50 (by decide) ?_
        refine lv_icmp_le (tgt := 62) hx hb dJ6_numberOfTrailingZeros_0f7a4_52 (by decide) (fun c10 => ?_) (fun c10 => ?_)
        · skip
          have f11 : z3.toInt ≤ 16 := b_le rfl (by decide) c10
          refine lv_iload_n hx hb dJ6_numberOfTrailingZeros_0f7a4_62 rfl (lv_at hl 1 rfl) ?_
          refine lv_iconst (v := 4) hx hb dJ6_numberOfTrailingZeros_0f7a4_63 (by decide) ?_
          refine lv_icmp_le (tgt := 74) hx hb dJ6_numberOfTrailingZeros_0f7a4_64 (by decide) (fun c12 => ?_) (fun c12 => ?_)
          · skip
            have f13 : z3.toInt ≤ 4 := b_le rfl (by decide) c12
            refine lv_iload_n hx hb dJ6_numberOfTrailingZeros_0f7a4_74 rfl (lv_at hl 0 rfl) ?_
            refine lv_iload_n hx hb dJ6_numberOfTrailingZeros_0f7a4_75 rfl (lv_at hl 1 rfl) ?_
            refine lv_iconst (v := 1) hx hb dJ6_numberOfTrailingZeros_0f7a4_76 (by decide) ?_
            refine lv_iushr hx hb dJ6_numberOfTrailingZeros_0f7a4_77 rfl ?_
            refine lv_topi (fun z14 ez14 => ?_)
            have hz14 : z14.toInt = z3.toInt / 2 := ushr_l (P := 2) (k := 1) ez14 (by first | omega | ((try (have i_lob := Imp.go lob (by omega))); omega)) (by decide) (by decide) (by decide)
            refine lv_iadd hx hb dJ6_numberOfTrailingZeros_0f7a4_78 ?_
            refine lv_topi (fun z15 ez15 => ?_)
            have hz15 : z15.toInt = 1 + z14.toInt := i_add ez15 (by decide) rfl (by omega)
            exact W.iret (v := z15) hx hb hr (fun t ht hW => ⟨⟨z15, (), rfl, ⟨(show 0 ≤ z15.toInt ∧ z15.toInt ≤ 32 from by first | omega | ((try (have i_lob := Imp.go lob (by omega))); omega)), (show z15.toInt = ((gk : Nat) : Int) from by first | omega | ((try (have i_lob := Imp.go lob (by omega))); omega))⟩, by rw [ht]; exact hP, va_K.moved hW.alike hK, hD⟩, hS.F ht⟩) hS.2.2 dJ6_numberOfTrailingZeros_0f7a4_79
          · skip
            have f16 : 4 < z3.toInt := b_nle rfl (by decide) c12
            refine lv_iinc (v := 3) (lv' := [(1, .int 3), (0, .int z3)]) hx hb dJ6_numberOfTrailingZeros_0f7a4_67 hl (k := 0) rfl (by decide) (by decide) rfl (fun ls hl => ?_)
            refine lv_iload_n hx hb dJ6_numberOfTrailingZeros_0f7a4_70 rfl (lv_at hl 1 rfl) ?_
            refine lv_iconst (v := 2) hx hb dJ6_numberOfTrailingZeros_0f7a4_71 (by decide) ?_
            refine lv_iushr hx hb dJ6_numberOfTrailingZeros_0f7a4_72 rfl ?_
            refine lv_topi (fun z17 ez17 => ?_)
            have hz17 : z17.toInt = z3.toInt / 4 := ushr_l (P := 4) (k := 2) ez17 (by first | omega | ((try (have i_lob := Imp.go lob (by omega))); omega)) (by decide) (by decide) (by decide)
            refine lv_istore_n (lv' := [(0, .int z17), (1, .int 3)]) hx hb dJ6_numberOfTrailingZeros_0f7a4_73 rfl hl (by decide) rfl (fun ls hl => ?_)
            refine lv_iload_n hx hb dJ6_numberOfTrailingZeros_0f7a4_74 rfl (lv_at hl 1 rfl) ?_
            refine lv_iload_n hx hb dJ6_numberOfTrailingZeros_0f7a4_75 rfl (lv_at hl 0 rfl) ?_
            refine lv_iconst (v := 1) hx hb dJ6_numberOfTrailingZeros_0f7a4_76 (by decide) ?_
            refine lv_iushr hx hb dJ6_numberOfTrailingZeros_0f7a4_77 rfl ?_
            refine lv_topi (fun z18 ez18 => ?_)
            have hz18 : z18.toInt = z17.toInt / 2 := ushr_l (P := 2) (k := 1) ez18 (by first | omega | ((try (have i_lob := Imp.go lob (by omega))); omega)) (by decide) (by decide) (by decide)
            refine lv_iadd hx hb dJ6_numberOfTrailingZeros_0f7a4_78 ?_
            refine lv_topi (fun z19 ez19 => ?_)
            have hz19 : z19.toInt = 3 + z18.toInt := i_add ez19 (by decide) rfl (by omega)
            exact W.iret (v := z19) hx hb hr (fun t ht hW => ⟨⟨z19, (), rfl, ⟨(show 0 ≤ z19.toInt ∧ z19.toInt ≤ 32 from by first | omega | ((try (have i_lob := Imp.go lob (by omega))); omega)), (show z19.toInt = ((gk : Nat) : Int) from by first | omega | ((try (have i_lob := Imp.go lob (by omega))); omega))⟩, by rw [ht]; exact hP, va_K.moved hW.alike hK, hD⟩, hS.F ht⟩) hS.2.2 dJ6_numberOfTrailingZeros_0f7a4_79
        · skip
          have f20 : 16 < z3.toInt := b_nle rfl (by decide) c10
          refine lv_iinc (v := 5) (lv' := [(1, .int 5), (0, .int z3)]) hx hb dJ6_numberOfTrailingZeros_0f7a4_55 hl (k := 0) rfl (by decide) (by decide) rfl (fun ls hl => ?_)
          refine lv_iload_n hx hb dJ6_numberOfTrailingZeros_0f7a4_58 rfl (lv_at hl 1 rfl) ?_
          refine lv_iconst (v := 4) hx hb dJ6_numberOfTrailingZeros_0f7a4_59 (by decide) ?_
          refine lv_iushr hx hb dJ6_numberOfTrailingZeros_0f7a4_60 rfl ?_
          refine lv_topi (fun z21 ez21 => ?_)
          have hz21 : z21.toInt = z3.toInt / 16 := ushr_l (P := 16) (k := 4) ez21 (by first | omega | ((try (have i_lob := Imp.go lob (by omega))); omega)) (by decide) (by decide) (by decide)
          refine lv_istore_n (lv' := [(0, .int z21), (1, .int 5)]) hx hb dJ6_numberOfTrailingZeros_0f7a4_61 rfl hl (by decide) rfl (fun ls hl => ?_)
          refine lv_iload_n hx hb dJ6_numberOfTrailingZeros_0f7a4_62 rfl (lv_at hl 0 rfl) ?_
          refine lv_iconst (v := 4) hx hb dJ6_numberOfTrailingZeros_0f7a4_63 (by decide) ?_
          refine lv_icmp_le (tgt := 74) hx hb dJ6_numberOfTrailingZeros_0f7a4_64 (by decide) (fun c22 => ?_) (fun c22 => ?_)
          · skip
            have f23 : z21.toInt ≤ 4 := b_le rfl (by decide) c22
            refine lv_iload_n hx hb dJ6_numberOfTrailingZeros_0f7a4_74 rfl (lv_at hl 1 rfl) ?_
            refine lv_iload_n hx hb dJ6_numberOfTrailingZeros_0f7a4_75 rfl (lv_at hl 0 rfl) ?_
            refine lv_iconst (v := 1) hx hb dJ6_numberOfTrailingZeros_0f7a4_76 (by decide) ?_
            refine lv_iushr hx hb dJ6_numberOfTrailingZeros_0f7a4_77 rfl ?_
            refine lv_topi (fun z24 ez24 => ?_)
            have hz24 : z24.toInt = z21.toInt / 2 := ushr_l (P := 2) (k := 1) ez24 (by first | omega | ((try (have i_lob := Imp.go lob (by omega))); omega)) (by decide) (by decide) (by decide)
            refine lv_iadd hx hb dJ6_numberOfTrailingZeros_0f7a4_78 ?_
            refine lv_topi (fun z25 ez25 => ?_)
            have hz25 : z25.toInt = 5 + z24.toInt := i_add ez25 (by decide) rfl (by omega)
            exact W.iret (v := z25) hx hb hr (fun t ht hW => ⟨⟨z25, (), rfl, ⟨(show 0 ≤ z25.toInt ∧ z25.toInt ≤ 32 from by first | omega | ((try (have i_lob := Imp.go lob (by omega))); omega)), (show z25.toInt = ((gk : Nat) : Int) from by first | omega | ((try (have i_lob := Imp.go lob (by omega))); omega))⟩, by rw [ht]; exact hP, va_K.moved hW.alike hK, hD⟩, hS.F ht⟩) hS.2.2 dJ6_numberOfTrailingZeros_0f7a4_79
          · skip
            have f26 : 4 < z21.toInt := b_nle rfl (by decide) c22
            refine lv_iinc (v := 7) (lv' := [(1, .int 7), (0, .int z21)]) hx hb dJ6_numberOfTrailingZeros_0f7a4_67 hl (k := 1) rfl (by decide) (by decide) rfl (fun ls hl => ?_)
            refine lv_iload_n hx hb dJ6_numberOfTrailingZeros_0f7a4_70 rfl (lv_at hl 1 rfl) ?_
            refine lv_iconst (v := 2) hx hb dJ6_numberOfTrailingZeros_0f7a4_71 (by decide) ?_
            refine lv_iushr hx hb dJ6_numberOfTrailingZeros_0f7a4_72 rfl ?_
            refine lv_topi (fun z27 ez27 => ?_)
            have hz27 : z27.toInt = z21.toInt / 4 := ushr_l (P := 4) (k := 2) ez27 (by first | omega | ((try (have i_lob := Imp.go lob (by omega))); omega)) (by decide) (by decide) (by decide)
            refine lv_istore_n (lv' := [(0, .int z27), (1, .int 7)]) hx hb dJ6_numberOfTrailingZeros_0f7a4_73 rfl hl (by decide) rfl (fun ls hl => ?_)
            refine lv_iload_n hx hb dJ6_numberOfTrailingZeros_0f7a4_74 rfl (lv_at hl 1 rfl) ?_
            refine lv_iload_n hx hb dJ6_numberOfTrailingZeros_0f7a4_75 rfl (lv_at hl 0 rfl) ?_
            refine lv_iconst (v := 1) hx hb dJ6_numberOfTrailingZeros_0f7a4_76 (by decide) ?_
            refine lv_iushr hx hb dJ6_numberOfTrailingZeros_0f7a4_77 rfl ?_
            refine lv_topi (fun z28 ez28 => ?_)
            have hz28 : z28.toInt = z27.toInt / 2 := ushr_l (P := 2) (k := 1) ez28 (by first | omega | ((try (have i_lob := Imp.go lob (by omega))); omega)) (by decide) (by decide) (by decide)
            refine lv_iadd hx hb dJ6_numberOfTrailingZeros_0f7a4_78 ?_
            refine lv_topi (fun z29 ez29 => ?_)
            have hz29 : z29.toInt = 7 + z28.toInt := i_add ez29 (by decide) rfl (by omega)
            exact W.iret (v := z29) hx hb hr (fun t ht hW => ⟨⟨z29, (), rfl, ⟨(show 0 ≤ z29.toInt ∧ z29.toInt ≤ 32 from by first | omega | ((try (have i_lob := Imp.go lob (by omega))); omega)), (show z29.toInt = ((gk : Nat) : Int) from by first | omega | ((try (have i_lob := Imp.go lob (by omega))); omega))⟩, by rw [ht]; exact hP, va_K.moved hW.alike hK, hD⟩, hS.F ht⟩) hS.2.2 dJ6_numberOfTrailingZeros_0f7a4_79
      · skip
        have f30 : 256 < z3.toInt := b_nle rfl (by decide) c8
        refine lv_iinc (v := 9) (lv' := [(1, .int 9), (0, .int z3)]) hx hb dJ6_numberOfTrailingZeros_0f7a4_41 hl (k := 0) rfl (by decide) (by decide) rfl (fun ls hl => ?_)
        refine lv_iload_n hx hb dJ6_numberOfTrailingZeros_0f7a4_44 rfl (lv_at hl 1 rfl) ?_
        refine lv_bipush (v := 8) hx hb dJ6_numberOfTrailingZeros_0f7a4_45 (by decide) ?_
        refine lv_iushr hx hb dJ6_numberOfTrailingZeros_0f7a4_47 rfl ?_
        refine lv_topi (fun z31 ez31 => ?_)
        have hz31 : z31.toInt = z3.toInt / 256 := ushr_l (P := 256) (k := 8) ez31 (by first | omega | ((try (have i_lob := Imp.go lob (by omega))); omega)) (by decide) (by decide) (by decide)
        refine lv_istore_n (lv' := [(0, .int z31), (1, .int 9)]) hx hb dJ6_numberOfTrailingZeros_0f7a4_48 rfl hl (by decide) rfl (fun ls hl => ?_)
        refine lv_iload_n hx hb dJ6_numberOfTrailingZeros_0f7a4_49 rfl (lv_at hl 0 rfl) ?_
        refine lv_bipush (v := 16) hx hb dJ6_numberOfTrailingZeros_0f7a4_50 (by decide) ?_
        refine lv_icmp_le (tgt := 62) hx hb dJ6_numberOfTrailingZeros_0f7a4_52 (by decide) (fun c32 => ?_) (fun c32 => ?_)
        · skip
          have f33 : z31.toInt ≤ 16 := b_le rfl (by decide) c32
          refine lv_iload_n hx hb dJ6_numberOfTrailingZeros_0f7a4_62 rfl (lv_at hl 0 rfl) ?_
          refine lv_iconst (v := 4) hx hb dJ6_numberOfTrailingZeros_0f7a4_63 (by decide) ?_
          refine lv_icmp_le (tgt := 74) hx hb dJ6_numberOfTrailingZeros_0f7a4_64 (by decide) (fun c34 => ?_) (fun c34 => ?_)
          · skip
            have f35 : z31.toInt ≤ 4 := b_le rfl (by decide) c34
            refine lv_iload_n hx hb dJ6_numberOfTrailingZeros_0f7a4_74 rfl (lv_at hl 1 rfl) ?_
            refine lv_iload_n hx hb dJ6_numberOfTrailingZeros_0f7a4_75 rfl (lv_at hl 0 rfl) ?_
            refine lv_iconst (v := 1) hx hb dJ6_numberOfTrailingZeros_0f7a4_76 (by decide) ?_
            refine lv_iushr hx hb dJ6_numberOfTrailingZeros_0f7a4_77 rfl ?_
            refine lv_topi (fun z36 ez36 => ?_)
            have hz36 : z36.toInt = z31.toInt / 2 := ushr_l (P := 2) (k := 1) ez36 (by first | omega | ((try (have i_lob := Imp.go lob (by omega))); omega)) (by decide) (by decide) (by decide)
            refine lv_iadd hx hb dJ6_numberOfTrailingZeros_0f7a4_78 ?_
            refine lv_topi (fun z37 ez37 => ?_)
            have hz37 : z37.toInt = 9 + z36.toInt := i_add ez37 (by decide) rfl (by omega)
            exact W.iret (v := z37) hx hb hr (fun t ht hW => ⟨⟨z37, (), rfl, ⟨(show 0 ≤ z37.toInt ∧ z37.toInt ≤ 32 from by first | omega | ((try (have i_lob := Imp.go lob (by omega))); omega)), (show z37.toInt = ((gk : Nat) : Int) from by first | omega | ((try (have i_lob := Imp.go lob (by omega))); omega))⟩, by rw [ht]; exact hP, va_K.moved hW.alike hK, hD⟩, hS.F ht⟩) hS.2.2 dJ6_numberOfTrailingZeros_0f7a4_79
          · skip
            have f38 : 4 < z31.toInt := b_nle rfl (by decide) c34
            refine lv_iinc (v := 11) (lv' := [(1, .int 11), (0, .int z31)]) hx hb dJ6_numberOfTrailingZeros_0f7a4_67 hl (k := 1) rfl (by decide) (by decide) rfl (fun ls hl => ?_)
            refine lv_iload_n hx hb dJ6_numberOfTrailingZeros_0f7a4_70 rfl (lv_at hl 1 rfl) ?_
            refine lv_iconst (v := 2) hx hb dJ6_numberOfTrailingZeros_0f7a4_71 (by decide) ?_
            refine lv_iushr hx hb dJ6_numberOfTrailingZeros_0f7a4_72 rfl ?_
            refine lv_topi (fun z39 ez39 => ?_)
            have hz39 : z39.toInt = z31.toInt / 4 := ushr_l (P := 4) (k := 2) ez39 (by first | omega | ((try (have i_lob := Imp.go lob (by omega))); omega)) (by decide) (by decide) (by decide)
            refine lv_istore_n (lv' := [(0, .int z39), (1, .int 11)]) hx hb dJ6_numberOfTrailingZeros_0f7a4_73 rfl hl (by decide) rfl (fun ls hl => ?_)
            refine lv_iload_n hx hb dJ6_numberOfTrailingZeros_0f7a4_74 rfl (lv_at hl 1 rfl) ?_
            refine lv_iload_n hx hb dJ6_numberOfTrailingZeros_0f7a4_75 rfl (lv_at hl 0 rfl) ?_
            refine lv_iconst (v := 1) hx hb dJ6_numberOfTrailingZeros_0f7a4_76 (by decide) ?_
            refine lv_iushr hx hb dJ6_numberOfTrailingZeros_0f7a4_77 rfl ?_
            refine lv_topi (fun z40 ez40 => ?_)
            have hz40 : z40.toInt = z39.toInt / 2 := ushr_l (P := 2) (k := 1) ez40 (by first | omega | ((try (have i_lob := Imp.go lob (by omega))); omega)) (by decide) (by decide) (by decide)
            refine lv_iadd hx hb dJ6_numberOfTrailingZeros_0f7a4_78 ?_
            refine lv_topi (fun z41 ez41 => ?_)
            have hz41 : z41.toInt = 11 + z40.toInt := i_add ez41 (by decide) rfl (by omega)
            exact W.iret (v := z41) hx hb hr (fun t ht hW => ⟨⟨z41, (), rfl, ⟨(show 0 ≤ z41.toInt ∧ z41.toInt ≤ 32 from by first | omega | ((try (have i_lob := Imp.go lob (by omega))); omega)), (show z41.toInt = ((gk : Nat) : Int) from by first | omega | ((try (have i_lob := Imp.go lob (by omega))); omega))⟩, by rw [ht]; exact hP, va_K.moved hW.alike hK, hD⟩, hS.F ht⟩) hS.2.2 dJ6_numberOfTrailingZeros_0f7a4_79
        · skip
          have f42 : 16 < z31.toInt := b_nle rfl (by decide) c32
          refine lv_iinc (v := 13) (lv' := [(1, .int 13), (0, .int z31)]) hx hb dJ6_numberOfTrailingZeros_0f7a4_55 hl (k := 1) rfl (by decide) (by decide) rfl (fun ls hl => ?_)
          refine lv_iload_n hx hb dJ6_numberOfTrailingZeros_0f7a4_58 rfl (lv_at hl 1 rfl) ?_
          refine lv_iconst (v := 4) hx hb dJ6_numberOfTrailingZeros_0f7a4_59 (by decide) ?_
          refine lv_iushr hx hb dJ6_numberOfTrailingZeros_0f7a4_60 rfl ?_
          refine lv_topi (fun z43 ez43 => ?_)
          have hz43 : z43.toInt = z31.toInt / 16 := ushr_l (P := 16) (k := 4) ez43 (by first | omega | ((try (have i_lob := Imp.go lob (by omega))); omega)) (by decide) (by decide) (by decide)
          refine lv_istore_n (lv' := [(0, .int z43), (1, .int 13)]) hx hb dJ6_numberOfTrailingZeros_0f7a4_61 rfl hl (by decide) rfl (fun ls hl => ?_)
          refine lv_iload_n hx hb dJ6_numberOfTrailingZeros_0f7a4_62 rfl (lv_at hl 0 rfl) ?_
          refine lv_iconst (v := 4) hx hb dJ6_numberOfTrailingZeros_0f7a4_63 (by decide) ?_
          refine lv_icmp_le (tgt := 74) hx hb dJ6_numberOfTrailingZeros_0f7a4_64 (by decide) (fun c44 => ?_) (fun c44 => ?_)
          · skip
            have f45 : z43.toInt ≤ 4 := b_le rfl (by decide) c44
            refine lv_iload_n hx hb dJ6_numberOfTrailingZeros_0f7a4_74 rfl (lv_at hl 1 rfl) ?_
            refine lv_iload_n hx hb dJ6_numberOfTrailingZeros_0f7a4_75 rfl (lv_at hl 0 rfl) ?_
            refine lv_iconst (v := 1) hx hb dJ6_numberOfTrailingZeros_0f7a4_76 (by decide) ?_
            refine lv_iushr hx hb dJ6_numberOfTrailingZeros_0f7a4_77 rfl ?_
            refine lv_topi (fun z46 ez46 => ?_)
            have hz46 : z46.toInt = z43.toInt / 2 := ushr_l (P := 2) (k := 1) ez46 (by first | omega | ((try (have i_lob := Imp.go lob (by omega))); omega)) (by decide) (by decide) (by decide)
            refine lv_iadd hx hb dJ6_numberOfTrailingZeros_0f7a4_78 ?_
            refine lv_topi (fun z47 ez47 => ?_)
            have hz47 : z47.toInt = 13 + z46.toInt := i_add ez47 (by decide) rfl (by omega)
            exact W.iret (v := z47) hx hb hr (fun t ht hW => ⟨⟨z47, (), rfl, ⟨(show 0 ≤ z47.toInt ∧ z47.toInt ≤ 32 from by first | omega | ((try (have i_lob := Imp.go lob (by omega))); omega)), (show z47.toInt = ((gk : Nat) : Int) from by first | omega | ((try (have i_lob := Imp.go lob (by omega))); omega))⟩, by rw [ht]; exact hP, va_K.moved hW.alike hK, hD⟩, hS.F ht⟩) hS.2.2 dJ6_numberOfTrailingZeros_0f7a4_79
          · skip
            have f48 : 4 < z43.toInt := b_nle rfl (by decide) c44
            refine lv_iinc (v := 15) (lv' := [(1, .int 15), (0, .int z43)]) hx hb dJ6_numberOfTrailingZeros_0f7a4_67 hl (k := 1) rfl (by decide) (by decide) rfl (fun ls hl => ?_)
            refine lv_iload_n hx hb dJ6_numberOfTrailingZeros_0f7a4_70 rfl (lv_at hl 1 rfl) ?_
            refine lv_iconst (v := 2) hx hb dJ6_numberOfTrailingZeros_0f7a4_71 (by decide) ?_
            refine lv_iushr hx hb dJ6_numberOfTrailingZeros_0f7a4_72 rfl ?_
            refine lv_topi (fun z49 ez49 => ?_)
            have hz49 : z49.toInt = z43.toInt / 4 := ushr_l (P := 4) (k := 2) ez49 (by first | omega | ((try (have i_lob := Imp.go lob (by omega))); omega)) (by decide) (by decide) (by decide)
            refine lv_istore_n (lv' := [(0, .int z49), (1, .int 15)]) hx hb dJ6_numberOfTrailingZeros_0f7a4_73 rfl hl (by decide) rfl (fun ls hl => ?_)
            refine lv_iload_n hx hb dJ6_numberOfTrailingZeros_0f7a4_74 rfl (lv_at hl 1 rfl) ?_
            refine lv_iload_n hx hb dJ6_numberOfTrailingZeros_0f7a4_75 rfl (lv_at hl 0 rfl) ?_
            refine lv_iconst (v := 1) hx hb dJ6_numberOfTrailingZeros_0f7a4_76 (by decide) ?_
            refine lv_iushr hx hb dJ6_numberOfTrailingZeros_0f7a4_77 rfl ?_
            refine lv_topi (fun z50 ez50 => ?_)
            have hz50 : z50.toInt = z49.toInt / 2 := ushr_l (P := 2) (k := 1) ez50 (by first | omega | ((try (have i_lob := Imp.go lob (by omega))); omega)) (by decide) (by decide) (by decide)
            refine lv_iadd hx hb dJ6_numberOfTrailingZeros_0f7a4_78 ?_
            refine lv_topi (fun z51 ez51 => ?_)
            have hz51 : z51.toInt = 15 + z50.toInt := i_add ez51 (by decide) rfl (by omega)
            exact W.iret (v := z51) hx hb hr (fun t ht hW => ⟨⟨z51, (), rfl, ⟨(show 0 ≤ z51.toInt ∧ z51.toInt ≤ 32 from by first | omega | ((try (have i_lob := Imp.go lob (by omega))); omega)), (show z51.toInt = ((gk : Nat) : Int) from by first | omega | ((try (have i_lob := Imp.go lob (by omega))); omega))⟩, by rw [ht]; exact hP, va_K.moved hW.alike hK, hD⟩, hS.F ht⟩) hS.2.2 dJ6_numberOfTrailingZeros_0f7a4_79
    · skip
      have f52 : 65536 < z3.toInt := b_nle rfl (by decide) c6
      refine lv_iinc (v := 17) (lv' := [(1, .int 17), (0, .int z3)]) hx hb dJ6_numberOfTrailingZeros_0f7a4_26 hl (k := 0) rfl (by decide) (by decide) rfl (fun ls hl => ?_)
      refine lv_iload_n hx hb dJ6_numberOfTrailingZeros_0f7a4_29 rfl (lv_at hl 1 rfl) ?_
      refine lv_bipush (v := 16) hx hb dJ6_numberOfTrailingZeros_0f7a4_30 (by decide) ?_
      refine lv_iushr hx hb dJ6_numberOfTrailingZeros_0f7a4_32 rfl ?_
      refine lv_topi (fun z53 ez53 => ?_)
      have hz53 : z53.toInt = z3.toInt / 65536 := ushr_l (P := 65536) (k := 16) ez53 (by first | omega | ((try (have i_lob := Imp.go lob (by omega))); omega)) (by decide) (by decide) (by decide)
      refine lv_istore_n (lv' := [(0, .int z53), (1, .int 17)]) hx hb dJ6_numberOfTrailingZeros_0f7a4_33 rfl hl (by decide) rfl (fun ls hl => ?_)
      refine lv_iload_n hx hb dJ6_numberOfTrailingZeros_0f7a4_34 rfl (lv_at hl 0 rfl) ?_
      refine lv_sipush (v := 256) hx hb dJ6_numberOfTrailingZeros_0f7a4_35 (by decide) ?_
      refine lv_icmp_le (tgt := 49) hx hb dJ6_numberOfTrailingZeros_0f7a4_38 (by decide) (fun c54 => ?_) (fun c54 => ?_)
      · skip
        have f55 : z53.toInt ≤ 256 := b_le rfl (by decide) c54
        refine lv_iload_n hx hb dJ6_numberOfTrailingZeros_0f7a4_49 rfl (lv_at hl 0 rfl) ?_
        refine lv_bipush (v := 16) hx hb dJ6_numberOfTrailingZeros_0f7a4_50 (by decide) ?_
        refine lv_icmp_le (tgt := 62) hx hb dJ6_numberOfTrailingZeros_0f7a4_52 (by decide) (fun c56 => ?_) (fun c56 => ?_)
        · skip
          have f57 : z53.toInt ≤ 16 := b_le rfl (by decide) c56
          refine lv_iload_n hx hb dJ6_numberOfTrailingZeros_0f7a4_62 rfl (lv_at hl 0 rfl) ?_
          refine lv_iconst (v := 4) hx hb dJ6_numberOfTrailingZeros_0f7a4_63 (by decide) ?_
          refine lv_icmp_le (tgt := 74) hx hb dJ6_numberOfTrailingZeros_0f7a4_64 (by decide) (fun c58 => ?_) (fun c58 => ?_)
          · skip
            have f59 : z53.toInt ≤ 4 := b_le rfl (by decide) c58
            refine lv_iload_n hx hb dJ6_numberOfTrailingZeros_0f7a4_74 rfl (lv_at hl 1 rfl) ?_
            refine lv_iload_n hx hb dJ6_numberOfTrailingZeros_0f7a4_75 rfl (lv_at hl 0 rfl) ?_
            refine lv_iconst (v := 1) hx hb dJ6_numberOfTrailingZeros_0f7a4_76 (by decide) ?_
            refine lv_iushr hx hb dJ6_numberOfTrailingZeros_0f7a4_77 rfl ?_
            refine lv_topi (fun z60 ez60 => ?_)
            have hz60 : z60.toInt = z53.toInt / 2 := ushr_l (P := 2) (k := 1) ez60 (by first | omega | ((try (have i_lob := Imp.go lob (by omega))); omega)) (by decide) (by decide) (by decide)
            refine lv_iadd hx hb dJ6_numberOfTrailingZeros_0f7a4_78 ?_
            refine lv_topi (fun z61 ez61 => ?_)
            have hz61 : z61.toInt = 17 + z60.toInt := i_add ez61 (by decide) rfl (by omega)
            exact W.iret (v := z61) hx hb hr (fun t ht hW => ⟨⟨z61, (), rfl, ⟨(show 0 ≤ z61.toInt ∧ z61.toInt ≤ 32 from by first | omega | ((try (have i_lob := Imp.go lob (by omega))); omega)), (show z61.toInt = ((gk : Nat) : Int) from by first | omega | ((try (have i_lob := Imp.go lob (by omega))); omega))⟩, by rw [ht]; exact hP, va_K.moved hW.alike hK, hD⟩, hS.F ht⟩) hS.2.2 dJ6_numberOfTrailingZeros_0f7a4_79
          · skip
            have f62 : 4 < z53.toInt := b_nle rfl (by decide) c58
            refine lv_iinc (v := 19) (lv' := [(1, .int 19), (0, .int z53)]) hx hb dJ6_numberOfTrailingZeros_0f7a4_67 hl (k := 1) rfl (by decide) (by decide) rfl (fun ls hl => ?_)
            refine lv_iload_n hx hb dJ6_numberOfTrailingZeros_0f7a4_70 rfl (lv_at hl 1 rfl) ?_
            refine lv_iconst (v := 2) hx hb dJ6_numberOfTrailingZeros_0f7a4_71 (by decide) ?_
            refine lv_iushr hx hb dJ6_numberOfTrailingZeros_0f7a4_72 rfl ?_
            refine lv_topi (fun z63 ez63 => ?_)
            have hz63 : z63.toInt = z53.toInt / 4 := ushr_l (P := 4) (k := 2) ez63 (by first | omega | ((try (have i_lob := Imp.go lob (by omega))); omega)) (by decide) (by decide) (by decide)
            refine lv_istore_n (lv' := [(0, .int z63), (1, .int 19)]) hx hb dJ6_numberOfTrailingZeros_0f7a4_73 rfl hl (by decide) rfl (fun ls hl => ?_)
            refine lv_iload_n hx hb dJ6_numberOfTrailingZeros_0f7a4_74 rfl (lv_at hl 1 rfl) ?_
            refine lv_iload_n hx hb dJ6_numberOfTrailingZeros_0f7a4_75 rfl (lv_at hl 0 rfl) ?_
            refine lv_iconst (v := 1) hx hb dJ6_numberOfTrailingZeros_0f7a4_76 (by decide) ?_
            refine lv_iushr hx hb dJ6_numberOfTrailingZeros_0f7a4_77 rfl ?_
            refine lv_topi (fun z64 ez64 => ?_)
            have hz64 : z64.toInt = z63.toInt / 2 := ushr_l (P := 2) (k := 1) ez64 (by first | omega | ((try (have i_lob := Imp.go lob (by omega))); omega)) (by decide) (by decide) (by decide)
            refine lv_iadd hx hb dJ6_numberOfTrailingZeros_0f7a4_78 ?_
            refine lv_topi (fun z65 ez65 => ?_)
            have hz65 : z65.toInt = 19 + z64.toInt := i_add ez65 (by decide) rfl (by omega)
            exact W.iret (v := z65) hx hb hr (fun t ht hW => ⟨⟨z65, (), rfl, ⟨(show 0 ≤ z65.toInt ∧ z65.toInt ≤ 32 from by first | omega | ((try (have i_lob := Imp.go lob (by omega))); omega)), (show z65.toInt = ((gk : Nat) : Int) from by first | omega | ((try (have i_lob := Imp.go lob (by omega))); omega))⟩, by rw [ht]; exact hP, va_K.moved hW.alike hK, hD⟩, hS.F ht⟩) hS.2.2 dJ6_numberOfTrailingZeros_0f7a4_79
        · skip
          have f66 : 16 < z53.toInt := b_nle rfl (by decide) c56
          refine lv_iinc (v := 21) (lv' := [(1, .int 21), (0, .int z53)]) hx hb dJ6_numberOfTrailingZeros_0f7a4_55 hl (k := 1) rfl (by decide) (by decide) rfl (fun ls hl => ?_)
          refine lv_iload_n hx hb dJ6_numberOfTrailingZeros_0f7a4_58 rfl (lv_at hl 1 rfl) ?_
          refine lv_iconst (v := 4) hx hb dJ6_numberOfTrailingZeros_0f7a4_59 (by decide) ?_
          refine lv_iushr hx hb dJ6_numberOfTrailingZeros_0f7a4_60 rfl ?_
          refine lv_topi (fun z67 ez67 => ?_)
          have hz67 : z67.toInt = z53.toInt / 16 := ushr_l (P := 16) (k := 4) ez67 (by first | omega | ((try (have i_lob := Imp.go lob (by omega))); omega)) (by decide) (by decide) (by decide)
          refine lv_istore_n (lv' := [(0, .int z67), (1, .int 21)]) hx hb dJ6_numberOfTrailingZeros_0f7a4_61 rfl hl (by decide) rfl (fun ls hl => ?_)
          refine lv_iload_n hx hb dJ6_numberOfTrailingZeros_0f7a4_62 rfl (lv_at hl 0 rfl) ?_
          refine lv_iconst (v := 4) hx hb dJ6_numberOfTrailingZeros_0f7a4_63 (by decide) ?_
          refine lv_icmp_le (tgt := 74) hx hb dJ6_numberOfTrailingZeros_0f7a4_64 (by decide) (fun c68 => ?_) (fun c68 => ?_)
          · skip
            have f69 : z67.toInt ≤ 4 := b_le rfl (by decide) c68
            refine lv_iload_n hx hb dJ6_numberOfTrailingZeros_0f7a4_74 rfl (lv_at hl 1 rfl) ?_
            refine lv_iload_n hx hb dJ6_numberOfTrailingZeros_0f7a4_75 rfl (lv_at hl 0 rfl) ?_
            refine lv_iconst (v := 1) hx hb dJ6_numberOfTrailingZeros_0f7a4_76 (by decide) ?_
            refine lv_iushr hx hb dJ6_numberOfTrailingZeros_0f7a4_77 rfl ?_
            refine lv_topi (fun z70 ez70 => ?_)
            have hz70 : z70.toInt = z67.toInt / 2 := ushr_l (P := 2) (k := 1) ez70 (by first | omega | ((try (have i_lob := Imp.go lob (by omega))); omega)) (by decide) (by decide) (by decide)
            refine lv_iadd hx hb dJ6_numberOfTrailingZeros_0f7a4_78 ?_
            refine lv_topi (fun z71 ez71 => ?_)
            have hz71 : z71.toInt = 21 + z70.toInt := i_add ez71 (by decide) rfl (by omega)
            exact W.iret (v := z71) hx hb hr (fun t ht hW => ⟨⟨z71, (), rfl, ⟨(show 0 ≤ z71.toInt ∧ z71.toInt ≤ 32 from by first | omega | ((try (have i_lob := Imp.go lob (by omega))); omega)), (show z71.toInt = ((gk : Nat) : Int) from by first | omega | ((try (have i_lob := Imp.go lob (by omega))); omega))⟩, by rw [ht]; exact hP, va_K.moved hW.alike hK, hD⟩, hS.F ht⟩) hS.2.2 dJ6_numberOfTrailingZeros_0f7a4_79
          · skip
            have f72 : 4 < z67.toInt := b_nle rfl (by decide) c68
            refine lv_iinc (v := 23) (lv' := [(1, .int 23), (0, .int z67)]) hx hb dJ6_numberOfTrailingZeros_0f7a4_67 hl (k := 1) rfl (by decide) (by decide) rfl (fun ls hl => ?_)
            refine lv_iload_n hx hb dJ6_numberOfTrailingZeros_0f7a4_70 rfl (lv_at hl 1 rfl) ?_
            refine lv_iconst (v := 2) hx hb dJ6_numberOfTrailingZeros_0f7a4_71 (by decide) ?_
            refine lv_iushr hx hb dJ6_numberOfTrailingZeros_0f7a4_72 rfl ?_
            refine lv_topi (fun z73 ez73 => ?_)
            have hz73 : z73.toInt = z67.toInt / 4 := ushr_l (P := 4) (k := 2) ez73 (by first | omega | ((try (have i_lob := Imp.go lob (by omega))); omega)) (by decide) (by decide) (by decide)
            refine lv_istore_n (lv' := [(0, .int z73), (1, .int 23)]) hx hb dJ6_numberOfTrailingZeros_0f7a4_73 rfl hl (by decide) rfl (fun ls hl => ?_)
            refine lv_iload_n hx hb dJ6_numberOfTrailingZeros_0f7a4_74 rfl (lv_at hl 1 rfl) ?_
            refine lv_iload_n hx hb dJ6_numberOfTrailingZeros_0f7a4_75 rfl (lv_at hl 0 rfl) ?_
            refine lv_iconst (v := 1) hx hb dJ6_numberOfTrailingZeros_0f7a4_76 (by decide) ?_
            refine lv_iushr hx hb dJ6_numberOfTrailingZeros_0f7a4_77 rfl ?_
            refine lv_topi (fun z74 ez74 => ?_)
            have hz74 : z74.toInt = z73.toInt / 2 := ushr_l (P := 2) (k := 1) ez74 (by first | omega | ((try (have i_lob := Imp.go lob (by omega))); omega)) (by decide) (by decide) (by decide)
            refine lv_iadd hx hb dJ6_numberOfTrailingZeros_0f7a4_78 ?_
            refine lv_topi (fun z75 ez75 => ?_)
            have hz75 : z75.toInt = 23 + z74.toInt := i_add ez75 (by decide) rfl (by omega)
            exact W.iret (v := z75) hx hb hr (fun t ht hW => ⟨⟨z75, (), rfl, ⟨(show 0 ≤ z75.toInt ∧ z75.toInt ≤ 32 from by first | omega | ((try (have i_lob := Imp.go lob (by omega))); omega)), (show z75.toInt = ((gk : Nat) : Int) from by first | omega | ((try (have i_lob := Imp.go lob (by omega))); omega))⟩, by rw [ht]; exact hP, va_K.moved hW.alike hK, hD⟩, hS.F ht⟩) hS.2.2 dJ6_numberOfTrailingZeros_0f7a4_79
      · skip
        have f76 : 256 < z53.toInt := b_nle rfl (by decide) c54
        refine lv_iinc (v := 25) (lv' := [(1, .int 25), (0, .int z53)]) hx hb dJ6_numberOfTrailingZeros_0f7a4_41 hl (k := 1) rfl (by decide) (by decide) rfl (fun ls hl => ?_)
        refine lv_iload_n hx hb dJ6_numberOfTrailingZeros_0f7a4_44 rfl (lv_at hl 1 rfl) ?_
        refine lv_bipush (v := 8) hx hb dJ6_numberOfTrailingZeros_0f7a4_45 (by decide) ?_
        refine lv_iushr hx hb dJ6_numberOfTrailingZeros_0f7a4_47 rfl ?_
        refine lv_topi (fun z77 ez77 => ?_)
        have hz77 : z77.toInt = z53.toInt / 256 := ushr_l (P := 256) (k := 8) ez77 (by first | omega | ((try (have i_lob := Imp.go lob (by omega))); omega)) (by decide) (by decide) (by decide)
        refine lv_istore_n (lv' := [(0, .int z77), (1, .int 25)]) hx hb dJ6_numberOfTrailingZeros_0f7a4_48 rfl hl (by decide) rfl (fun ls hl => ?_)
        refine lv_iload_n hx hb dJ6_numberOfTrailingZeros_0f7a4_49 rfl (lv_at hl 0 rfl) ?_
        refine lv_bipush (v := 16) hx hb dJ6_numberOfTrailingZeros_0f7a4_50 (by decide) ?_
        refine lv_icmp_le (tgt := 62) hx hb dJ6_numberOfTrailingZeros_0f7a4_52 (by decide) (fun c78 => ?_) (fun c78 => ?_)
        · skip
          have f79 : z77.toInt ≤ 16 := b_le rfl (by decide) c78
          refine lv_iload_n hx hb dJ6_numberOfTrailingZeros_0f7a4_62 rfl (lv_at hl 0 rfl) ?_
          refine lv_iconst (v := 4) hx hb dJ6_numberOfTrailingZeros_0f7a4_63 (by decide) ?_
          refine lv_icmp_le (tgt := 74) hx hb dJ6_numberOfTrailingZeros_0f7a4_64 (by decide) (fun c80 => ?_) (fun c80 => ?_)
          · skip
            have f81 : z77.toInt ≤ 4 := b_le rfl (by decide) c80
            refine lv_iload_n hx hb dJ6_numberOfTrailingZeros_0f7a4_74 rfl (lv_at hl 1 rfl) ?_
            refine lv_iload_n hx hb dJ6_numberOfTrailingZeros_0f7a4_75 rfl (lv_at hl 0 rfl) ?_
            refine lv_iconst (v := 1) hx hb dJ6_numberOfTrailingZeros_0f7a4_76 (by decide) ?_
            refine lv_iushr hx hb dJ6_numberOfTrailingZeros_0f7a4_77 rfl ?_
            refine lv_topi (fun z82 ez82 => ?_)
            have hz82 : z82.toInt = z77.toInt / 2 := ushr_l (P := 2) (k := 1) ez82 (by first | omega | ((try (have i_lob := Imp.go lob (by omega))); omega)) (by decide) (by decide) (by decide)
            refine lv_iadd hx hb dJ6_numberOfTrailingZeros_0f7a4_78 ?_
            refine lv_topi (fun z83 ez83 => ?_)
            have hz83 : z83.toInt = 25 + z82.toInt := i_add ez83 (by decide) rfl (by omega)
            exact W.iret (v := z83) hx hb hr (fun t ht hW => ⟨⟨z83, (), rfl, ⟨(show 0 ≤ z83.toInt ∧ z83.toInt ≤ 32 from by first | omega | ((try (have i_lob := Imp.go lob (by omega))); omega)), (show z83.toInt = ((gk : Nat) : Int) from by first | omega | ((try (have i_lob := Imp.go lob (by omega))); omega))⟩, by rw [ht]; exact hP, va_K.moved hW.alike hK, hD⟩, hS.F ht⟩) hS.2.2 dJ6_numberOfTrailingZeros_0f7a4_79
          · skip
            have f84 : 4 < z77.toInt := b_nle rfl (by decide) c80
            refine lv_iinc (v := 27) (lv' := [(1, .int 27), (0, .int z77)]) hx hb dJ6_numberOfTrailingZeros_0f7a4_67 hl (k := 1) rfl (by decide) (by decide) rfl (fun ls hl => ?_)
            refine lv_iload_n hx hb dJ6_numberOfTrailingZeros_0f7a4_70 rfl (lv_at hl 1 rfl) ?_
            refine lv_iconst (v := 2) hx hb dJ6_numberOfTrailingZeros_0f7a4_71 (by decide) ?_
            refine lv_iushr hx hb dJ6_numberOfTrailingZeros_0f7a4_72 rfl ?_
            refine lv_topi (fun z85 ez85 => ?_)
            have hz85 : z85.toInt = z77.toInt / 4 := ushr_l (P := 4) (k := 2) ez85 (by first | omega | ((try (have i_lob := Imp.go lob (by omega))); omega)) (by decide) (by decide) (by decide)
            refine lv_istore_n (lv' := [(0, .int z85), (1, .int 27)]) hx hb dJ6_numberOfTrailingZeros_0f7a4_73 rfl hl (by decide) rfl (fun ls hl => ?_)
            refine lv_iload_n hx hb dJ6_numberOfTrailingZeros_0f7a4_74 rfl (lv_at hl 1 rfl) ?_
            refine lv_iload_n hx hb dJ6_numberOfTrailingZeros_0f7a4_75 rfl (lv_at hl 0 rfl) ?_
            refine lv_iconst (v := 1) hx hb dJ6_numberOfTrailingZeros_0f7a4_76 (by decide) ?_
            refine lv_iushr hx hb dJ6_numberOfTrailingZeros_0f7a4_77 rfl ?_
            refine lv_topi (fun z86 ez86 => ?_)
            have hz86 : z86.toInt = z85.toInt / 2 := ushr_l (P := 2) (k := 1) ez86 (by first | omega | ((try (have i_lob := Imp.go lob (by omega))); omega)) (by decide) (by decide) (by decide)
            refine lv_iadd hx hb dJ6_numberOfTrailingZeros_0f7a4_78 ?_
            refine lv_topi (fun z87 ez87 => ?_)
            have hz87 : z87.toInt = 27 + z86.toInt := i_add ez87 (by decide) rfl (by omega)
            exact W.iret (v := z87) hx hb hr (fun t ht hW => ⟨⟨z87, (), rfl, ⟨(show 0 ≤ z87.toInt ∧ z87.toInt ≤ 32 from by first | omega | ((try (have i_lob := Imp.go lob (by omega))); omega)), (show z87.toInt = ((gk : Nat) : Int) from by first | omega | ((try (have i_lob := Imp.go lob (by omega))); omega))⟩, by rw [ht]; exact hP, va_K.moved hW.alike hK, hD⟩, hS.F ht⟩) hS.2.2 dJ6_numberOfTrailingZeros_0f7a4_79
        · skip
          have f88 : 16 < z77.toInt := b_nle rfl (by decide) c78
          refine lv_iinc (v := 29) (lv' := [(1, .int 29), (0, .int z77)]) hx hb dJ6_numberOfTrailingZeros_0f7a4_55 hl (k := 1) rfl (by decide) (by decide) rfl (fun ls hl => ?_)
          refine lv_iload_n hx hb dJ6_numberOfTrailingZeros_0f7a4_58 rfl (lv_at hl 1 rfl) ?_
          refine lv_iconst (v := 4) hx hb dJ6_numberOfTrailingZeros_0f7a4_59 (by decide) ?_
          refine lv_iushr hx hb dJ6_numberOfTrailingZeros_0f7a4_60 rfl ?_
          refine lv_topi (fun z89 ez89 => ?_)
          have hz89 : z89.toInt = z77.toInt / 16 := ushr_l (P := 16) (k := 4) ez89 (by first | omega | ((try (have i_lob := Imp.go lob (by omega))); omega)) (by decide) (by decide) (by decide)
          refine lv_istore_n (lv' := [(0, .int z89), (1, .int 29)]) hx hb dJ6_numberOfTrailingZeros_0f7a4_61 rfl hl (by decide) rfl (fun ls hl => ?_)
          refine lv_iload_n hx hb dJ6_numberOfTrailingZeros_0f7a4_62 rfl (lv_at hl 0 rfl) ?_
          refine lv_iconst (v := 4) hx hb dJ6_numberOfTrailingZeros_0f7a4_63 (by decide) ?_
          refine lv_icmp_le (tgt := 74) hx hb dJ6_numberOfTrailingZeros_0f7a4_64 (by decide) (fun c90 => ?_) (fun c90 => ?_)
          · skip
            have f91 : z89.toInt ≤ 4 := b_le rfl (by decide) c90
            refine lv_iload_n hx hb dJ6_numberOfTrailingZeros_0f7a4_74 rfl (lv_at hl 1 rfl) ?_
            refine lv_iload_n hx hb dJ6_numberOfTrailingZeros_0f7a4_75 rfl (lv_at hl 0 rfl) ?_
            refine lv_iconst (v := 1) hx hb dJ6_numberOfTrailingZeros_0f7a4_76 (by decide) ?_
            refine lv_iushr hx hb dJ6_numberOfTrailingZeros_0f7a4_77 rfl ?_
            refine lv_topi (fun z92 ez92 => ?_)
            have hz92 : z92.toInt = z89.toInt / 2 := ushr_l (P := 2) (k := 1) ez92 (by first | omega | ((try (have i_lob := Imp.go lob (by omega))); omega)) (by decide) (by decide) (by decide)
            refine lv_iadd hx hb dJ6_numberOfTrailingZeros_0f7a4_78 ?_
            refine lv_topi (fun z93 ez93 => ?_)
            have hz93 : z93.toInt = 29 + z92.toInt := i_add ez93 (by decide) rfl (by omega)
            exact W.iret (v := z93) hx hb hr (fun t ht hW => ⟨⟨z93, (), rfl, ⟨(show 0 ≤ z93.toInt ∧ z93.toInt ≤ 32 from by first | omega | ((try (have i_lob := Imp.go lob (by omega))); omega)), (show z93.toInt = ((gk : Nat) : Int) from by first | omega | ((try (have i_lob := Imp.go lob (by omega))); omega))⟩, by rw [ht]; exact hP, va_K.moved hW.alike hK, hD⟩, hS.F ht⟩) hS.2.2 dJ6_numberOfTrailingZeros_0f7a4_79
          · skip
            have f94 : 4 < z89.toInt := b_nle rfl (by decide) c90
            refine lv_iinc (v := 31) (lv' := [(1, .int 31), (0, .int z89)]) hx hb dJ6_numberOfTrailingZeros_0f7a4_67 hl (k := 1) rfl (by decide) (by decide) rfl (fun ls hl => ?_)
            refine lv_iload_n hx hb dJ6_numberOfTrailingZeros_0f7a4_70 rfl (lv_at hl 1 rfl) ?_
            refine lv_iconst (v := 2) hx hb dJ6_numberOfTrailingZeros_0f7a4_71 (by decide) ?_
            refine lv_iushr hx hb dJ6_numberOfTrailingZeros_0f7a4_72 rfl ?_
            refine lv_topi (fun z95 ez95 => ?_)
            have hz95 : z95.toInt = z89.toInt / 4 := ushr_l (P := 4) (k := 2) ez95 (by first | omega | ((try (have i_lob := Imp.go lob (by omega))); omega)) (by decide) (by decide) (by decide)
            refine lv_istore_n (lv' := [(0, .int z95), (1, .int 31)]) hx hb dJ6_numberOfTrailingZeros_0f7a4_73 rfl hl (by decide) rfl (fun ls hl => ?_)
            refine lv_iload_n hx hb dJ6_numberOfTrailingZeros_0f7a4_74 rfl (lv_at hl 1 rfl) ?_
            refine lv_iload_n hx hb dJ6_numberOfTrailingZeros_0f7a4_75 rfl (lv_at hl 0 rfl) ?_
            refine lv_iconst (v := 1) hx hb dJ6_numberOfTrailingZeros_0f7a4_76 (by decide) ?_
            refine lv_iushr hx hb dJ6_numberOfTrailingZeros_0f7a4_77 rfl ?_
            refine lv_topi (fun z96 ez96 => ?_)
            have hz96 : z96.toInt = z95.toInt / 2 := ushr_l (P := 2) (k := 1) ez96 (by first | omega | ((try (have i_lob := Imp.go lob (by omega))); omega)) (by decide) (by decide) (by decide)
            refine lv_iadd hx hb dJ6_numberOfTrailingZeros_0f7a4_78 ?_
            refine lv_topi (fun z97 ez97 => ?_)
            have hz97 : z97.toInt = 31 + z96.toInt := i_add ez97 (by decide) rfl (by omega)
            exact W.iret (v := z97) hx hb hr (fun t ht hW => ⟨⟨z97, (), rfl, ⟨(show 0 ≤ z97.toInt ∧ z97.toInt ≤ 32 from by first | omega | ((try (have i_lob := Imp.go lob (by omega))); omega)), (show z97.toInt = ((gk : Nat) : Int) from by first | omega | ((try (have i_lob := Imp.go lob (by omega))); omega))⟩, by rw [ht]; exact hP, va_K.moved hW.alike hK, hD⟩, hS.F ht⟩) hS.2.2 dJ6_numberOfTrailingZeros_0f7a4_79
  · skip
    have f98 : z3.toInt ≤ 0 := b_nlt (by decide) rfl c4
    refine lv_iload_n hx hb dJ6_numberOfTrailingZeros_0f7a4_12 rfl (lv_at hl 0 rfl) ?_
    refine lv_bipush (v := 32) hx hb dJ6_numberOfTrailingZeros_0f7a4_13 (by decide) ?_
    refine lv_iand hx hb dJ6_numberOfTrailingZeros_0f7a4_15 ?_
    refine lv_topi (fun z99 ez99 => ?_)
    have hq1 : 0 ≤ z99.toInt ∧ z99.toInt ≤ 32 := and_m ez99 (by decide)
    have hq2 : 0 ≤ z3.toInt → 0 ≤ z99.toInt ∧ z99.toInt ≤ z3.toInt := fun h => and_left ez99 h
    exact W.iret (v := z99) hx hb hr (fun t ht hW => ⟨⟨z99, (), rfl, ⟨(show 0 ≤ z99.toInt ∧ z99.toInt ≤ 32 from by first | exact om_83f5e4ef2f8c f98 hq1.1 hq2.2 | first | omega | ((try (have i_lob := Imp.go lob (by omega))); omega)), (show z99.toInt = ((gk : Nat) : Int) from by first | omega | ((try (have i_lob := Imp.go lob (by omega))); omega))⟩, by rw [ht]; exact hP, va_K.moved hW.alike hK, hD⟩, hS.F ht⟩) hS.2.2 dJ6_numberOfTrailingZeros_0f7a4_16
abbrev r_x_bhas10 : Room := { frames := 0, cells := 0, slots := 0, locals := 0 }
abbrev q_x_bhas10 (D : va_G) (ks : KS) (ad : Nat → Nat) (kk : Nat → ClassId) (V : Vf) (L : Lf) (Z : XZ) (p0 : Int32) (b : Nat) (A : Nat → Prop) : Array Value → State → Outcome → State → Prop := va_Qi (fun (r : Int32) (_ : Unit) => (0 ≤ r.toInt ∧ r.toInt ≤ 1) ∧ ((r.toInt = 1 ∧ 0 ≤ p0.toInt ∧ p0.toInt < (V 43 (5 * b + 2)).toInt) ∨ (r.toInt = 0 ∧ (p0.toInt < 0 ∨ (V 43 (5 * b + 2)).toInt ≤ p0.toInt)))) (fun _ t => gq D A (xw ad kk V L Z) (xty kk Z) t) A
set_option maxHeartbeats 4000000 in
set_option maxRecDepth 100000 in
theorem x_bhas10 (l : Launch) (D : va_G) (ks : KS) (sz : Nat) (ad : Nat → Nat) (kk : Nat → ClassId) (V : Vf) (L : Lf) (Z : XZ) (p0 : Int32) (b : Nat) (hMV : rgd bX V) (hb2 : b < 2)  : Met l yX0_has (Cond.code yX0_has cX0_has 2 (some .boolean) :: GW) r_x_bhas10 (va_Pc [.ref (ad (38 + b)), .int p0] (gp D ks (xw ad kk V L Z) (xty kk Z) sz)) (q_x_bhas10 D ks ad kk V L Z p0 b (va_A (xw ad kk V L Z) sz)) 0 0 (va_A (xw ad kk V L Z) sz) := by
  refine g_met (q_x_bhas10 D ks ad kk V L Z p0 b) (by decide) (Nat.le_of_ble_eq_true rfl) ?_
  intro p e s m below meth c A ls H locs hx hb hr hml hown hg hlocks hin hnw hgk hP hK hD hS hA hl
  have hown : s.vm.findClass RX0 = some m.cls := hown
  have hl : lv_has ls 2 [(0, .ref (ad (38 + b))), (1, .int p0)] := hl
  have hP : va_P D vwCl (xw ad kk V L Z) H := hP
  have hD : va_D A (xw ad kk V L Z) := hD
  have hK : va_K D vwCl (xty kk Z) s := hK
  refine lv_iload_n hx hb dX0_has_0 rfl (lv_at hl 1 rfl) ?_
  refine lv_if_lt (tgt := 19) hx hb dX0_has_1 (by decide) (fun c1 => ?_) (fun c1 => ?_)
  · skip
    have f2 : p0.toInt < 0 := b_lt rfl (by decide) c1
    refine lv_iconst (v := 0) hx hb dX0_has_19 (by decide) ?_
    have r3 : 0 ≤ ((V 43 (5 * b + 2))).toInt ∧ ((V 43 (5 * b + 2))).toInt ≤ ((xcap (5 * b + 2) : Nat) : Int) := hMV 43 (5 * b + 2)
    have r4 : xcap (5 * b + 2) = 24 := xcap_2
    exact W.zret (v := 0) hx hb hr rfl (fun t ht hW => ⟨⟨0, (), rfl, ⟨(by decide), (show (0 = 1 ∧ 0 ≤ p0.toInt ∧ p0.toInt < (V 43 (5 * b + 2)).toInt) ∨ (0 = 0 ∧ (p0.toInt < 0 ∨ (V 43 (5 * b + 2)).toInt ≤ p0.toInt)) from by omega)⟩, by rw [ht]; exact hP, va_K.moved hW.alike hK, hD⟩, hS.F ht⟩) hS.2.2 dX0_has_20
  · skip
    have f5 : 0 ≤ p0.toInt := b_nlt rfl (by decide) c1
    refine lv_iload_n hx hb dX0_has_4 rfl (lv_at hl 1 rfl) ?_
    refine lv_aload_n hx hb dX0_has_5 rfl (lv_at hl 0 rfl) ?_
    refine va_get (D := D) (ci := 0) (v := .ref (ad (40 + (5 * b + 2)))) (fs := (xfBook ad V b)) (C := RX0) (T := TX0) (N := 13) hx hb hg inX0 hown hK hP (38 + b) (xgBook hb2) rfl 2 (by decide) (hg _ w599) (fun _ h9 => h9) rfl dX0_has_6 ?_
    have il6 : (5 * b + 2) < 10 := by (first | exact om_1478e52fbf50 hb2 | omega)
    refine va_getN (D := D) (ci := 6) (v := .int (V 43 (5 * b + 2))) (fs := (xfNames ad V (5 * b + 2))) (C := RX6) (T := TX6) (N := 2) hx hb hg inX6 hown hK hP (40 + (5 * b + 2)) (xgNames il6) rfl 1 (by decide) (hnw.use 481 n481 rfl) (fun _ h9 => h9) rfl dX0_has_9 ?_
    have r7 : 0 ≤ ((V 43 (5 * b + 2))).toInt ∧ ((V 43 (5 * b + 2))).toInt ≤ ((xcap (5 * b + 2) : Nat) : Int) := hMV 43 (5 * b + 2)
    have r8 : xcap (5 * b + 2) = 24 := xcap_2
    refine lv_icmp_ge (tgt := 19) hx hb dX0_has_12 (by decide) (fun c9 => ?_) (fun c9 => ?_)
    · skip
      have f10 : ((V 43 (5 * b + 2))).toInt ≤ p0.toInt := b_le rfl rfl c9
      refine lv_iconst (v := 0) hx hb dX0_has_19 (by decide) ?_
      exact W.zret (v := 0) hx hb hr rfl (fun t ht hW => ⟨⟨0, (), rfl, ⟨(by decide), (show (0 = 1 ∧ 0 ≤ p0.toInt ∧ p0.toInt < (V 43 (5 * b + 2)).toInt) ∨ (0 = 0 ∧ (p0.toInt < 0 ∨ (V 43 (5 * b + 2)).toInt ≤ p0.toInt)) from by omega)⟩, by rw [ht]; exact hP, va_K.moved hW.alike hK, hD⟩, hS.F ht⟩) hS.2.2 dX0_has_20
    · skip
      have f11 : p0.toInt < ((V 43 (5 * b + 2))).toInt := b_nle rfl rfl c9
      refine lv_iconst (v := 1) hx hb dX0_has_15 (by decide) ?_
      refine lv_goto (tgt := 20) hx hb dX0_has_16 (by decide) ?_
      exact W.zret (v := 1) hx hb hr rfl (fun t ht hW => ⟨⟨1, (), rfl, ⟨(by decide), (show (1 = 1 ∧ 0 ≤ p0.toInt ∧ p0.toInt < (V 43 (5 * b + 2)).toInt) ∨ (1 = 0 ∧ (p0.toInt < 0 ∨ (V 43 (5 * b + 2)).toInt ≤ p0.toInt)) from by omega)⟩, by rw [ht]; exact hP, va_K.moved hW.alike hK, hD⟩, hS.F ht⟩) hS.2.2 dX0_has_20
abbrev r_x_h_candidate10 : Room := { frames := 2, cells := 0, slots := 0, locals := 53 }
abbrev q_x_h_candidate10 (D : va_G) (ks : KS) (ad : Nat → Nat) (kk : Nat → ClassId) (V : Vf) (L : Lf) (Z : XZ) (p0 : Int32) (p1 : Int32) (p2 : Int32) (b : Nat) (gs : St) (gv : Nat → Int) (A : Nat → Prop) : Array Value → State → Outcome → State → Prop := va_Qi (fun (r : Int32) (_ : Unit) => (r.toInt = cnA gs.1 gv (gs.2.1 2).length p0.toInt p1.toInt p2.toInt)) (fun _ t => gq D A (xw ad kk V L Z) (xty kk Z) t) A
set_option maxHeartbeats 4000000 in
set_option maxRecDepth 100000 in
theorem x_h_candidate10 (l : Launch) (D : va_G) (ks : KS) (sz : Nat) (ad : Nat → Nat) (kk : Nat → ClassId) (V : Vf) (L : Lf) (Z : XZ) (p0 : Int32) (p1 : Int32) (p2 : Int32) (b : Nat) (gs : St) (gv : Nat → Int) (hMV : rgd bX V) (hb2 : b < 2) (shk : (V 0 6).toInt = (b : Int)) (coc : COc V b gs) (wh : WHs gs) (ln : (V 43 (5 * b + 2)).toInt = (((gs.2.1 2).length : Nat) : Int)) (ln2 : (gs.2.1 2).length ≤ 24) (hsv : svc V b (gs.2.1 1).length = gv)  : Met l yX11_candidate (Cond.code yX11_candidate cX11_candidate 6 (some .int) :: GW) r_x_h_candidate10 (va_Pc [.ref (ad 0), .int p0, .int p1, .int p2] (gp D ks (xw ad kk V L Z) (xty kk Z) sz)) (q_x_h_candidate10 D ks ad kk V L Z p0 p1 p2 b gs gv (va_A (xw ad kk V L Z) sz)) 0 0 (va_A (xw ad kk V L Z) sz) := by
  refine g_met (q_x_h_candidate10 D ks ad kk V L Z p0 p1 p2 b gs gv) (by decide) (Nat.le_of_ble_eq_true rfl) ?_
  intro p e s m below meth c A ls H locs hx hb hr hml hown hg hlocks hin hnw hgk hP hK hD hS hA hl
  have hown : s.vm.findClass RX11 = some m.cls := hown
  have hl : lv_has ls 6 [(0, .ref (ad 0)), (1, .int p0), (2, .int p1), (3, .int p2)] := hl
  have hP : va_P D vwCl (xw ad kk V L Z) H := hP
  have hD : va_D A (xw ad kk V L Z) := hD
  have hK : va_K D vwCl (xty kk Z) s := hK
  have r1 : 0 ≤ ((V 0 6)).toInt ∧ ((V 0 6)).toInt ≤ 1 := hMV 0 6
  have r2 : 0 ≤ ((V 43 (5 * b + 2))).toInt ∧ ((V 43 (5 * b + 2))).toInt ≤ ((xcap (5 * b + 2) : Nat) : Int) := hMV 43 (5 * b + 2)
  have r3 : xcap (5 * b + 2) = 24 := xcap_2
  have hf2 := i_full p2
  refine lv_aload_n hx hb dX11_candidate_0 rfl (lv_at hl 0 rfl) ?_
  refine va_get (D := D) (ci := 11) (v := .ref (ad (38 + Int32.toNatClampNeg (V 0 6)))) (fs := (xfHouse ad V L Z)) (C := RX11) (T := TX11) (N := 10) hx hb hg inX11 hown hK hP 0 xgHouse rfl 6 (by decide) (hg _ w721) (fun _ h9 => h9) rfl dX11_candidate_1 ?_
  refine g_topv (v := .ref (ad (38 + b))) (rfP (by first | omega | ((try (have i_hsv := Imp.go hsv (by omega))); (try (have i_wh := Imp.go wh (by omega))); (try (have i_coc := Imp.go coc (by omega))); (try (have i_coc := Imp.go coc (by omega))); (try (have i_wh := Imp.go wh (by omega))); (try (have i_hsv := Imp.go hsv (by omega))); omega))) ?_
  refine lv_iload_n hx hb dX11_candidate_4 rfl (lv_at hl 1 rfl) ?_
  refine gA_int (gA_runV (As := [.int p0]) (rest := []) (ci := 0) (q0 := (38 + b)) hx hb hml hown hg hP hD hK hS hA hnw hgk (x_bhas10 l D ks H.size ad kk V L Z p0 (b) hMV (show b < 2 from by first | exact om_f940a4667dd6 hb2 | first | omega | ((try (have i_hsv := Imp.go hsv (by omega))); (try (have i_wh := Imp.go wh (by omega))); (try (have i_coc := Imp.go coc (by omega))); (try (have i_coc := Imp.go coc (by omega))); (try (have i_wh := Imp.go wh (by omega))); (try (have i_hsv := Imp.go hsv (by omega))); omega))) w1137 w1138 w1139 w167 w1140 rfl (xgBook hb2) hdV_yX0_has ⟨Nat.le_of_ble_eq_true rfl, Nat.le_of_ble_eq_true rfl⟩ rfl hl.1 rfl (Nat.le_of_ble_eq_true rfl) dX11_candidate_5 ⟨Nat.le_of_ble_eq_true rfl, Nat.le_of_ble_eq_true rfl⟩) hP hD hK hS hA (fun z4 u5 H locs w6 hP hD hK hS => ?_)
  obtain ⟨rgz4, t7⟩ := w6
  have rgz4 : 0 ≤ z4.toInt ∧ z4.toInt ≤ 1 := rgz4
  have t7 : (z4.toInt = 1 ∧ 0 ≤ p0.toInt ∧ p0.toInt < (V 43 (5 * b + 2)).toInt) ∨ (z4.toInt = 0 ∧ (p0.toInt < 0 ∨ (V 43 (5 * b + 2)).toInt ≤ p0.toInt)) := t7
  refine lv_if_eq (tgt := 35) hx hb dX11_candidate_8 (by decide) (fun c8 => ?_) (fun c8 => ?_)
  · skip
    have f9 : z4.toInt = 0 := b_eq rfl (by decide) c8
    refine lv_iconst (v := (-1)) hx hb dX11_candidate_35 (by decide) ?_
    exact W.iret (v := (-1)) hx hb hr (fun t ht hW => ⟨⟨(-1), (), rfl, (by rw [cnA_n (fun h9 => by have h1 := h9.1; have h2 := h9.2.1; have h3 := h9.2.2.1; have h4 := h9.2.2.2.1; have h5 := h9.2.2.2.2; omega)]; decide), by rw [ht]; exact hP, va_K.moved hW.alike hK, hD⟩, hS.F ht⟩) hS.2.2 dX11_candidate_36
  · skip
    have f10 : z4.toInt ≠ 0 := b_neq rfl (by decide) c8
    have kc0 := i_clamp (x := p0) rfl (by (first | exact om_a11da7d4e3a3 t7 f10 | omega))
    have k0l : (Int32.toNatClampNeg p0) < (gs.2.1 2).length := by (first | exact om_5201201ba65c ln t7 f10 kc0 | omega)
    have h49 : (V 49 (24 * b + (Int32.toNatClampNeg p0))).toInt = ((gs.1 (66 + 8 * (Int32.toNatClampNeg p0)) : Nat) : Int) := (coc _ k0l).2.1
    have g08 := (coc _ k0l).2.2.1
    have fe9 : p0.toInt.toNat = (Int32.toNatClampNeg p0) := rfl
    refine lv_iload_n hx hb dX11_candidate_11 rfl (lv_at hl 2 rfl) ?_
    refine lv_if_lt (tgt := 35) hx hb dX11_candidate_12 (by decide) (fun c11 => ?_) (fun c11 => ?_)
    · skip
      have f12 : p1.toInt < 0 := b_lt rfl (by decide) c11
      refine lv_iconst (v := (-1)) hx hb dX11_candidate_35 (by decide) ?_
      exact W.iret (v := (-1)) hx hb hr (fun t ht hW => ⟨⟨(-1), (), rfl, (by rw [cnA_n (fun h9 => by have h1 := h9.1; have h2 := h9.2.1; have h3 := h9.2.2.1; have h4 := h9.2.2.2.1; have h5 := h9.2.2.2.2; rw [fe9] at h4; omega)]; decide), by rw [ht]; exact hP, va_K.moved hW.alike hK, hD⟩, hS.F ht⟩) hS.2.2 dX11_candidate_36
    · skip
      have f13 : 0 ≤ p1.toInt := b_nlt rfl (by decide) c11
      refine lv_iload_n hx hb dX11_candidate_15 rfl (lv_at hl 2 rfl) ?_
      refine lv_aload_n hx hb dX11_candidate_16 rfl (lv_at hl 0 rfl) ?_
      refine va_get (D := D) (ci := 11) (v := .ref (ad (38 + Int32.toNatClampNeg (V 0 6)))) (fs := (xfHouse ad V L Z)) (C := RX11) (T := TX11) (N := 10) hx hb hg inX11 hown hK hP 0 xgHouse rfl 6 (by decide) (hg _ w721) (fun _ h9 => h9) rfl dX11_candidate_17 ?_
      refine g_topv (v := .ref (ad (38 + b))) (rfP (by first | omega | ((try (have i_hsv := Imp.go hsv (by omega))); (try (have i_wh := Imp.go wh (by omega))); (try (have i_coc := Imp.go coc (by omega))); (try (have i_coc := Imp.go coc (by omega))); (try (have i_wh := Imp.go wh (by omega))); (try (have i_hsv := Imp.go hsv (by omega))); omega))) ?_
      refine va_getN (D := D) (ci := 0) (v := .ref (ad (64 + b))) (fs := (xfBook ad V b)) (C := RX0) (T := TX0) (N := 13) hx hb hg inX0 hown hK hP (38 + b) (xgBook hb2) rfl 7 (by decide) (hnw.use 617 n617 rfl) (fun _ h9 => h9) rfl dX11_candidate_20 ?_
      refine lv_iload_n hx hb dX11_candidate_23 rfl (lv_at hl 1 rfl) ?_
      have il14 : b < 2 := by first | exact om_f940a4667dd6 hb2 | first | omega | ((try (have i_hsv := Imp.go hsv (by omega))); (try (have i_wh := Imp.go wh (by omega))); (try (have i_coc := Imp.go coc (by omega))); (try (have i_coc := Imp.go coc (by omega))); (try (have i_wh := Imp.go wh (by omega))); (try (have i_hsv := Imp.go hsv (by omega))); omega)
      refine va_aldq (D := D) (i := p0) hx hb hK hP (64 + b) (57 + b) (xgcomps il14) (xtcomps il14) (i_in (a := p0.toInt) rfl (by first | exact om_90da46e2da0d ln2 kc0 k0l fe9 | first | omega | ((try (have i_hsv := Imp.go hsv (by omega))); (try (have i_wh := Imp.go wh (by omega))); (try (have i_coc := Imp.go coc (by omega))); (try (have i_coc := Imp.go coc (by omega))); (try (have i_wh := Imp.go wh (by omega))); (try (have i_hsv := Imp.go hsv (by omega))); omega))) dX11_candidate_24 ?_
      have kc15 := i_clamp (x := p0) rfl (by first | exact om_50dfdfbb9dc6 kc0 | first | omega | ((try (have i_hsv := Imp.go hsv (by omega))); (try (have i_wh := Imp.go wh (by omega))); (try (have i_coc := Imp.go coc (by omega))); (try (have i_coc := Imp.go coc (by omega))); (try (have i_wh := Imp.go wh (by omega))); (try (have i_hsv := Imp.go hsv (by omega))); omega))
      refine g_topv (v := .ref (ad (72 + (24 * b + (Int32.toNatClampNeg p0))))) (congrArg va_rf (if_pos (by first | omega | ((try (have i_hsv := Imp.go hsv (by omega))); (try (have i_wh := Imp.go wh (by omega))); (try (have i_coc := Imp.go coc (by omega))); (try (have i_coc := Imp.go coc (by omega))); (try (have i_wh := Imp.go wh (by omega))); (try (have i_hsv := Imp.go hsv (by omega))); omega)))) ?_
      have il16 : (24 * b + (Int32.toNatClampNeg p0)) < 48 := by first | exact om_1e2e575eba98 hb2 ln2 k0l | first | omega | ((try (have i_hsv := Imp.go hsv (by omega))); (try (have i_wh := Imp.go wh (by omega))); (try (have i_coc := Imp.go coc (by omega))); (try (have i_coc := Imp.go coc (by omega))); (try (have i_wh := Imp.go wh (by omega))); (try (have i_hsv := Imp.go hsv (by omega))); omega)
      refine va_getN (D := D) (ci := 3) (v := .int (V 49 (24 * b + (Int32.toNatClampNeg p0)))) (fs := (xfComp ad V (24 * b + (Int32.toNatClampNeg p0)))) (C := RX3) (T := TX3) (N := 13) hx hb hg inX3 hown hK hP (72 + (24 * b + (Int32.toNatClampNeg p0))) (xgComp il16) rfl 4 (by decide) (hnw.use 512 n512 rfl) (fun _ h9 => h9) rfl dX11_candidate_25 ?_
      have r17 : 0 ≤ ((V 49 (24 * b + (Int32.toNatClampNeg p0)))).toInt ∧ ((V 49 (24 * b + (Int32.toNatClampNeg p0)))).toInt ≤ 8 := hMV 49 (24 * b + (Int32.toNatClampNeg p0))
      refine lv_icmp_ge (tgt := 35) hx hb dX11_candidate_28 (by decide) (fun c18 => ?_) (fun c18 => ?_)
      · skip
        have f19 : ((V 49 (24 * b + (Int32.toNatClampNeg p0)))).toInt ≤ p1.toInt := b_le rfl rfl c18
        refine lv_iconst (v := (-1)) hx hb dX11_candidate_35 (by decide) ?_
        exact W.iret (v := (-1)) hx hb hr (fun t ht hW => ⟨⟨(-1), (), rfl, (by rw [cnA_n (fun h9 => by have h1 := h9.1; have h2 := h9.2.1; have h3 := h9.2.2.1; have h4 := h9.2.2.2.1; have h5 := h9.2.2.2.2; rw [fe9] at h4; omega)]; decide), by rw [ht]; exact hP, va_K.moved hW.alike hK, hD⟩, hS.F ht⟩) hS.2.2 dX11_candidate_36
      · skip
        have f20 : p1.toInt < ((V 49 (24 * b + (Int32.toNatClampNeg p0)))).toInt := b_nle rfl rfl c18
        refine lv_iload_n hx hb dX11_candidate_31 rfl (lv_at hl 3 rfl) ?_
        refine lv_if_ge (tgt := 37) hx hb dX11_candidate_32 (by decide) (fun c21 => ?_) (fun c21 => ?_)
        · skip
          have f22 : 0 ≤ p2.toInt := b_le (by decide) rfl c21
          have kc1 := i_clamp (x := p1) rfl (by (first | exact om_eafa9039069c f13 | omega))
          have kc2 := i_clamp (x := p2) rfl (by (first | exact om_eafa9039069c f22 | omega))
          have j0l : (Int32.toNatClampNeg p1) < gs.1 (66 + 8 * (Int32.toNatClampNeg p0)) := by omega
          refine lv_aload_n hx hb dX11_candidate_37 rfl (lv_at hl 0 rfl) ?_
          refine va_get (D := D) (ci := 11) (v := .ref (ad (38 + Int32.toNatClampNeg (V 0 6)))) (fs := (xfHouse ad V L Z)) (C := RX11) (T := TX11) (N := 10) hx hb hg inX11 hown hK hP 0 xgHouse rfl 6 (by decide) (hg _ w721) (fun _ h9 => h9) rfl dX11_candidate_38 ?_
          refine g_topv (v := .ref (ad (38 + b))) (rfP (by first | omega | ((try (have i_hsv := Imp.go hsv (by omega))); (try (have i_wh := Imp.go wh (by omega))); (try (have i_coc := Imp.go coc (by omega))); (try (have i_coc := Imp.go coc (by omega))); (try (have i_wh := Imp.go wh (by omega))); (try (have i_hsv := Imp.go hsv (by omega))); omega))) ?_
          refine lv_iload_n hx hb dX11_candidate_41 rfl (lv_at hl 1 rfl) ?_
          refine lv_iload_n hx hb dX11_candidate_42 rfl (lv_at hl 2 rfl) ?_
          refine gA_int (gA_runV (As := [.int p0, .int p1]) (rest := []) (ci := 0) (q0 := (38 + b)) hx hb hml hown hg hP hD hK hS hA hnw hgk (x_candidates5 l D ks H.size ad kk V L Z p0 p1 (b) (gs) ((Int32.toNatClampNeg p0)) ((Int32.toNatClampNeg p1)) hMV (by first | exact om_354e64b0fd76 ln2 kc0 k0l | first | omega | ((try (have i_hsv := Imp.go hsv (by omega))); (try (have i_wh := Imp.go wh (by omega))); (try (have i_coc := Imp.go coc (by omega))); (try (have i_coc := Imp.go coc (by omega))); (try (have i_wh := Imp.go wh (by omega))); (try (have i_hsv := Imp.go hsv (by omega))); omega)) (by first | exact om_45aa31722d3e f13 r17.2 f20 | first | omega | ((try (have i_hsv := Imp.go hsv (by omega))); (try (have i_wh := Imp.go wh (by omega))); (try (have i_coc := Imp.go coc (by omega))); (try (have i_coc := Imp.go coc (by omega))); (try (have i_wh := Imp.go wh (by omega))); (try (have i_hsv := Imp.go hsv (by omega))); omega)) (show b < 2 from by first | exact om_f940a4667dd6 hb2 | first | omega | ((try (have i_hsv := Imp.go hsv (by omega))); (try (have i_wh := Imp.go wh (by omega))); (try (have i_coc := Imp.go coc (by omega))); (try (have i_coc := Imp.go coc (by omega))); (try (have i_wh := Imp.go wh (by omega))); (try (have i_hsv := Imp.go hsv (by omega))); omega)) (show p0.toInt = ((Int32.toNatClampNeg p0) : Int) from by first | exact om_dadc9969542e kc0 | first | omega | ((try (have i_hsv := Imp.go hsv (by omega))); (try (have i_wh := Imp.go wh (by omega))); (try (have i_coc := Imp.go coc (by omega))); (try (have i_coc := Imp.go coc (by omega))); (try (have i_wh := Imp.go wh (by omega))); (try (have i_hsv := Imp.go hsv (by omega))); omega)) (show p1.toInt = ((Int32.toNatClampNeg p1) : Int) from by first | exact om_dadc9969542e kc1 | first | omega | ((try (have i_hsv := Imp.go hsv (by omega))); (try (have i_wh := Imp.go wh (by omega))); (try (have i_coc := Imp.go coc (by omega))); (try (have i_coc := Imp.go coc (by omega))); (try (have i_wh := Imp.go wh (by omega))); (try (have i_hsv := Imp.go hsv (by omega))); omega)) coc wh k0l j0l (show (V 43 (5 * b + 2)).toInt = (((gs.2.1 2).length : Nat) : Int) from by first | exact om_08e0c9701055 ln | first | omega | ((try (have i_hsv := Imp.go hsv (by omega))); (try (have i_wh := Imp.go wh (by omega))); (try (have i_coc := Imp.go coc (by omega))); (try (have i_coc := Imp.go coc (by omega))); (try (have i_wh := Imp.go wh (by omega))); (try (have i_hsv := Imp.go hsv (by omega))); omega))) w1141 w1082 w1083 w167 w1084 rfl (xgBook hb2) hdV_yX0_candidates ⟨Nat.le_of_ble_eq_true rfl, Nat.le_of_ble_eq_true rfl⟩ rfl hl.1 rfl (Nat.le_of_ble_eq_true rfl) dX11_candidate_43 ⟨Nat.le_of_ble_eq_true rfl, Nat.le_of_ble_eq_true rfl⟩) hP hD hK hS hA (fun z23 u24 H locs w25 hP hD hK hS => ?_)
          obtain ⟨rgz23, t26⟩ := w25
          have rgz23 : 0 ≤ z23.toInt ∧ z23.toInt ≤ 16777215 := rgz23
          have t26 : FND z23 gs.1 (svc V b (gs.2.1 1).length) (gs.1 (301 + 32 * (Int32.toNatClampNeg p0) + 4 * (Int32.toNatClampNeg p1))) (gs.1 (300 + 32 * (Int32.toNatClampNeg p0) + 4 * (Int32.toNatClampNeg p1))) (gs.1 (302 + 32 * (Int32.toNatClampNeg p0) + 4 * (Int32.toNatClampNeg p1))) (gs.2.1 2).length := t26
          refine lv_istore (lv' := [(4, .int z23), (0, .ref (ad 0)), (1, .int p0), (2, .int p1), (3, .int p2)]) hx hb dX11_candidate_46 hl (by decide) rfl (fun ls hl => ?_)
          have sb0 : SBL z23 (clF gs.1 gv (gs.2.1 2).length (Int32.toNatClampNeg p0) (Int32.toNatClampNeg p1)) := SBL.of (by have h9 := t26; rw [hsv] at h9; exact h9) (by (first | exact om_c51a6401fccc rgz23.1 rgz23.2 | omega)) ln2
          refine lv_iconst (v := 0) hx hb dX11_candidate_48 (by decide) ?_
          refine lv_istore (lv' := [(5, .int 0), (4, .int z23), (0, .ref (ad 0)), (1, .int p0), (2, .int p1), (3, .int p2)]) hx hb dX11_candidate_49 hl (by decide) rfl (fun ls hl => ?_)
          have lp29 : ∀ (fulp29 : Nat) (y27 : Int32) (y28 : Int32) (H : Heap) (locs : List Loc) (ls : Array Slot), 0 ≤ y27.toInt ∧ y27.toInt ≤ 2147483647 → 0 ≤ y28.toInt ∧ y28.toInt ≤ 16777215 → (SBL y28 ((clF gs.1 gv (gs.2.1 2).length (Int32.toNatClampNeg p0) (Int32.toNatClampNeg p1)).drop y27.toInt.toNat)) → y27.toInt ≤ p2.toInt → p2.toInt - y27.toInt < (fulp29 : Int) → va_P D vwCl (xw ad kk V L Z) H → va_D A (xw ad kk V L Z) → va_S A s.heap H locs → lv_has ls 6 [(5, .int y27), (4, .int y28), (0, .ref (ad 0)), (1, .int p0), (2, .int p1), (3, .int p2)] → W p l e r_x_h_candidate10 s m ([.ref (ad 0), .int p0, .int p1, .int p2] : List Value).toArray below meth c H locs 0 0 (MQ below (q_x_h_candidate10 D ks ad kk V L Z p0 p1 p2 b gs gv A) ([.ref (ad 0), .int p0, .int p1, .int p2] : List Value).toArray s 0 0 A) (F0 m 51 ls []) := by
            intro fulp29
            induction fulp29 with
            | zero =>
              intro y27 y28 H locs ls klp29_0 klp29_1 xlp29_0 xlp29_1 hn  hP hD hS hl
              exfalso; (first | exact om_4634b1278845 xlp29_1 hn | omega)
            | succ fulp29 ihlp29 =>
              intro y27 y28 H locs ls klp29_0 klp29_1 xlp29_0 xlp29_1 hn  hP hD hS hl
              refine lv_iload hx hb dX11_candidate_51 (lv_at hl 0 rfl) ?_
              refine lv_iload_n hx hb dX11_candidate_53 rfl (lv_at hl 5 rfl) ?_
              refine lv_icmp_ge (tgt := 77) hx hb dX11_candidate_54 (by decide) (fun c30 => ?_) (fun c30 => ?_)
              · skip
                have f31 : p2.toInt ≤ y27.toInt := b_le rfl rfl c30
                refine lv_iload hx hb dX11_candidate_77 (lv_at hl 1 rfl) ?_
                refine lv_if_ne (tgt := 86) hx hb dX11_candidate_79 (by decide) (fun c32 => ?_) (fun c32 => ?_)
                · skip
                  have f33 : y28.toInt ≠ 0 := b_neq rfl (by decide) c32
                  obtain ⟨a9, t9, et9⟩ := SBL.cons xlp29_0 (by (first | exact om_dc4480632432 klp29_1.1 f33 | omega))
                  have dh9 := drop_hd et9
                  have sb9 := xlp29_0
                  rw [et9] at sb9
                  refine lv_iload hx hb dX11_candidate_86 (lv_at hl 1 rfl) ?_
                  refine gE_int (g_runS (As := [.int y28]) (rest := []) (wc := []) (tc := []) hx hb hml hown hg gw_self hP hD hK hS hA hnw hgk [] [] (by decide) rfl rfl (x_nTZ10 l D ks H.size y28 (a9) (by first | exact om_64fe641f814d klp29_1.1 klp29_1.2 f33 | first | omega | ((try (have i_hsv := Imp.go hsv (by omega))); (try (have i_wh := Imp.go wh (by omega))); (try (have i_coc := Imp.go coc (by omega))); (try (have i_coc := Imp.go coc (by omega))); (try (have i_wh := Imp.go wh (by omega))); (try (have i_hsv := Imp.go hsv (by omega))); omega)) (SBL.lob sb9)) w1142 w1143 w175 w1144 hdS_yJ6_numberOfTrailingZeros_0f7a4 ⟨Nat.le_of_ble_eq_true rfl, Nat.le_of_ble_eq_true rfl⟩ rfl hl.1 rfl (Nat.le_of_ble_eq_true rfl) dX11_candidate_88 ⟨Nat.le_of_ble_eq_true rfl, Nat.le_of_ble_eq_true rfl⟩) hP hD hK hS hA (fun z34 u35 H locs w36 hP hD hK hS => ?_)
                  obtain ⟨rgz34, t37⟩ := w36
                  have rgz34 : 0 ≤ z34.toInt ∧ z34.toInt ≤ 32 := rgz34
                  have t37 : z34.toInt = ((a9 : Nat) : Int) := t37
                  exact W.iret (v := z34) hx hb hr (fun t ht hW => ⟨⟨z34, (), rfl, (by rw [cnA_y (a := (Int32.toNatClampNeg p0)) (b := (Int32.toNatClampNeg p1)) (k := (Int32.toNatClampNeg p2)) (by omega) (by omega) (by omega) k0l j0l, nth_y (a := a9) (by have h9 := dh9.1; rw [show y27.toInt.toNat = (Int32.toNatClampNeg p2) from by omega] at h9; exact h9)]; omega), by rw [ht]; exact hP, va_K.moved hW.alike hK, hD⟩, hS.F ht⟩) hS.2.2 dX11_candidate_91
                · skip
                  have f38 : y28.toInt = 0 := b_eq rfl (by decide) c32
                  refine lv_iconst (v := (-1)) hx hb dX11_candidate_82 (by decide) ?_
                  refine lv_goto (tgt := 91) hx hb dX11_candidate_83 (by decide) ?_
                  exact W.iret (v := (-1)) hx hb hr (fun t ht hW => ⟨⟨(-1), (), rfl, (by rw [cnA_y (a := (Int32.toNatClampNeg p0)) (b := (Int32.toNatClampNeg p1)) (k := (Int32.toNatClampNeg p2)) (by omega) (by omega) (by omega) k0l j0l]; have h9 := SBL.nil xlp29_0 (by omega); have h8 := List.drop_eq_nil_iff.mp h9; rw [nth_n (show (clF gs.1 gv (gs.2.1 2).length (Int32.toNatClampNeg p0) (Int32.toNatClampNeg p1)).length ≤ (Int32.toNatClampNeg p2) from by omega)]; decide), by rw [ht]; exact hP, va_K.moved hW.alike hK, hD⟩, hS.F ht⟩) hS.2.2 dX11_candidate_91
              · skip
                have f39 : y27.toInt < p2.toInt := b_nle rfl rfl c30
                refine lv_iload hx hb dX11_candidate_57 (lv_at hl 1 rfl) ?_
                refine lv_if_eq (tgt := 77) hx hb dX11_candidate_59 (by decide) (fun c40 => ?_) (fun c40 => ?_)
                · skip
                  have f41 : y28.toInt = 0 := b_eq rfl (by decide) c40
                  refine lv_iload hx hb dX11_candidate_77 (lv_at hl 1 rfl) ?_
                  refine lv_if_ne (tgt := 86) hx hb dX11_candidate_79 (by decide) (fun c42 => ?_) (fun c42 => ?_)
                  · skip
                    have f43 : y28.toInt ≠ 0 := b_neq rfl (by decide) c42
                    exfalso; first | exact om_fb320d7600b7 klp29_1.1 f41 f43 | first | omega | ((try (have i_hsv := Imp.go hsv (by omega))); (try (have i_wh := Imp.go wh (by omega))); (try (have i_coc := Imp.go coc (by omega))); (try (have i_coc := Imp.go coc (by omega))); (try (have i_wh := Imp.go wh (by omega))); (try (have i_hsv := Imp.go hsv (by omega))); omega)
                  · skip
                    have f44 : y28.toInt = 0 := b_eq rfl (by decide) c42
                    refine lv_iconst (v := (-1)) hx hb dX11_candidate_82 (by decide) ?_
                    refine lv_goto (tgt := 91) hx hb dX11_candidate_83 (by decide) ?_
                    exact W.iret (v := (-1)) hx hb hr (fun t ht hW => ⟨⟨(-1), (), rfl, (by rw [cnA_y (a := (Int32.toNatClampNeg p0)) (b := (Int32.toNatClampNeg p1)) (k := (Int32.toNatClampNeg p2)) (by omega) (by omega) (by omega) k0l j0l]; have h9 := SBL.nil xlp29_0 (by omega); have h8 := List.drop_eq_nil_iff.mp h9; rw [nth_n (show (clF gs.1 gv (gs.2.1 2).length (Int32.toNatClampNeg p0) (Int32.toNatClampNeg p1)).length ≤ (Int32.toNatClampNeg p2) from by omega)]; decide), by rw [ht]; exact hP, va_K.moved hW.alike hK, hD⟩, hS.F ht⟩) hS.2.2 dX11_candidate_91
                · skip
                  have f45 : y28.toInt ≠ 0 := b_neq rfl (by decide) c40
                  obtain ⟨a9, t9, et9⟩ := SBL.cons xlp29_0 (by (first | exact om_dc4480632432 klp29_1.1 f45 | omega))
                  have dh9 := drop_hd et9
                  refine lv_iload hx hb dX11_candidate_62 (lv_at hl 1 rfl) ?_
                  refine lv_iload hx hb dX11_candidate_64 (lv_at hl 1 rfl) ?_
                  refine lv_iconst (v := 1) hx hb dX11_candidate_66 (by decide) ?_
                  refine lv_isub hx hb dX11_candidate_67 ?_
                  refine lv_topi (fun z46 ez46 => ?_)
                  have hz46 : z46.toInt = y28.toInt - 1 := i_sub ez46 rfl (by decide) (by (first | exact om_9f80946fedea klp29_1.1 klp29_1.2 f45 | omega))
                  refine lv_iand hx hb dX11_candidate_68 ?_
                  refine lv_topi (fun z47 ez47 => ?_)
                  have sc9 := SBL.clr (by have h9 := xlp29_0; rw [et9] at h9; exact h9) ez46 ez47
                  have sr9 := sc9.1
                  refine lv_istore (lv' := [(4, .int z47), (5, .int y27), (0, .ref (ad 0)), (1, .int p0), (2, .int p1), (3, .int p2)]) hx hb dX11_candidate_69 hl (by decide) rfl (fun ls hl => ?_)
                  obtain ⟨z48, ez48⟩ : ∃ y : Int32, y = y27 + 1 := ⟨_, rfl⟩
                  have hz48 : z48.toInt = y27.toInt + 1 := i_add ez48 rfl (by decide) (by (first | exact om_88bd6a12a5d9 hf2.2 klp29_0.1 f39 | omega))
                  refine lv_iinc (v := z48) (lv' := [(5, .int z48), (4, .int z47), (0, .ref (ad 0)), (1, .int p0), (2, .int p1), (3, .int p2)]) hx hb dX11_candidate_71 hl (k := 1) rfl (by rw [ez48]; rfl) (by decide) rfl (fun ls hl => ?_)
                  refine lv_goto (tgt := 51) hx hb dX11_candidate_74 (by decide) ?_
                  exact ihlp29 z48 z47 H locs ls (by first | exact om_3a58d8ac03eb hf2.2 klp29_0.1 f39 hz48 | first | omega | ((try (have i_hsv := Imp.go hsv (by omega))); (try (have i_wh := Imp.go wh (by omega))); (try (have i_coc := Imp.go coc (by omega))); (try (have i_coc := Imp.go coc (by omega))); (try (have i_wh := Imp.go wh (by omega))); (try (have i_hsv := Imp.go hsv (by omega))); omega)) (by first | omega | ((try (have i_hsv := Imp.go hsv (by omega))); (try (have i_wh := Imp.go wh (by omega))); (try (have i_coc := Imp.go coc (by omega))); (try (have i_coc := Imp.go coc (by omega))); (try (have i_wh := Imp.go wh (by omega))); (try (have i_hsv := Imp.go hsv (by omega))); omega)) (by rw [show z48.toInt.toNat = y27.toInt.toNat + 1 from by omega, dh9.2]; exact sc9) (show z48.toInt ≤ p2.toInt from by first | exact om_7fe9249fc074 f39 hz48 | first | omega | ((try (have i_hsv := Imp.go hsv (by omega))); (try (have i_wh := Imp.go wh (by omega))); (try (have i_coc := Imp.go coc (by omega))); (try (have i_coc := Imp.go coc (by omega))); (try (have i_wh := Imp.go wh (by omega))); (try (have i_hsv := Imp.go hsv (by omega))); omega)) (by first | exact om_9e7d2b874257 hn hz48 | first | omega | ((try (have i_hsv := Imp.go hsv (by omega))); (try (have i_wh := Imp.go wh (by omega))); (try (have i_coc := Imp.go coc (by omega))); (try (have i_coc := Imp.go coc (by omega))); (try (have i_wh := Imp.go wh (by omega))); (try (have i_hsv := Imp.go hsv (by omega))); omega)) hP hD hS (lv_sub hl [0, 1, 2, 3, 4, 5] rfl)
          have r49 : Int32.toInt 0 = 0 := by decide
          exact lp29 ((p2.toInt - (Int32.toInt 0) + 1 : Int).toNat) 0 z23 H locs ls (by decide) (by first | exact om_c51a6401fccc rgz23.1 rgz23.2 | first | omega | ((try (have i_hsv := Imp.go hsv (by omega))); (try (have i_wh := Imp.go wh (by omega))); (try (have i_coc := Imp.go coc (by omega))); (try (have i_coc := Imp.go coc (by omega))); (try (have i_wh := Imp.go wh (by omega))); (try (have i_hsv := Imp.go hsv (by omega))); omega)) (by rw [show (Int32.toInt 0).toNat = 0 from by decide, List.drop_zero]; exact sb0) (show (Int32.toInt 0) ≤ p2.toInt from by first | exact om_6f9bb8cf3bec f22 r49 | first | omega | ((try (have i_hsv := Imp.go hsv (by omega))); (try (have i_wh := Imp.go wh (by omega))); (try (have i_coc := Imp.go coc (by omega))); (try (have i_coc := Imp.go coc (by omega))); (try (have i_wh := Imp.go wh (by omega))); (try (have i_hsv := Imp.go hsv (by omega))); omega)) (by first | exact om_7441a7786481 | first | omega | ((try (have i_hsv := Imp.go hsv (by omega))); (try (have i_wh := Imp.go wh (by omega))); (try (have i_coc := Imp.go coc (by omega))); (try (have i_coc := Imp.go coc (by omega))); (try (have i_wh := Imp.go wh (by omega))); (try (have i_hsv := Imp.go hsv (by omega))); omega)) hP hD hS (lv_sub hl [0, 1, 2, 3, 4, 5] rfl)
        · skip
          have f50 : p2.toInt < 0 := b_nle (by decide) rfl c21
          refine lv_iconst (v := (-1)) hx hb dX11_candidate_35 (by decide) ?_
          exact W.iret (v := (-1)) hx hb hr (fun t ht hW => ⟨⟨(-1), (), rfl, (by rw [cnA_n (fun h9 => by have h1 := h9.1; have h2 := h9.2.1; have h3 := h9.2.2.1; have h4 := h9.2.2.2.1; have h5 := h9.2.2.2.2; rw [fe9] at h4; omega)]; decide), by rw [ht]; exact hP, va_K.moved hW.alike hK, hD⟩, hS.F ht⟩) hS.2.2 dX11_candidate_36
abbrev r_s_candidate10 : Room := { frames := 3, cells := 0, slots := 0, locals := 69 }
abbrev q_s_candidate10 (D : va_G) (ks : KS) (ad : Nat → Nat) (kk : Nat → ClassId) (V : Vf) (L : Lf) (p0 : Int32) (p1 : Int32) (p2 : Int32) (bq : Nat) (gs : St) (gv : Nat → Int) (A : Nat → Prop) : Array Value → State → Outcome → State → Prop := va_Qi (fun (r : Int32) (u : Vf × Lf) => rgd bM u.1 ∧ agr [(0, 0)] [80] V u.1 ∧ u.2 = L ∧ (r.toInt = cnA gs.1 gv (gs.2.1 2).length p0.toInt p1.toInt p2.toInt)) (fun u t => gq D A (mw ad kk ks.1 u.1 u.2) (mty kk) t) A
set_option maxHeartbeats 4000000 in
set_option maxRecDepth 100000 in
theorem s_candidate10 (l : Launch) (D : va_G) (ks : KS) (sz : Nat) (ad : Nat → Nat) (kk : Nat → ClassId) (V : Vf) (L : Lf) (p0 : Int32) (p1 : Int32) (p2 : Int32) (bq : Nat) (gs : St) (gv : Nat → Int) (hMV : rgd bM V) (zq1 : (bq : Int) = (V 0 11).toInt) (t4 : T24 gs) (com : COM V bq gs) (wh : WHs gs) (ln : (V 19 bq).toInt = (((gs.2.1 2).length : Nat) : Int)) (ln2 : (gs.2.1 2).length ≤ 24) (hsv : svm V bq (gs.2.1 1).length = gv)  : Met l yX12_candidate (Cond.code yX12_candidate cX12_candidate 4 (some .int) :: GW) r_s_candidate10 (va_Pc [.ref (ad 0), .int p0, .int p1, .int p2] (gp D ks (mw ad kk ks.1 V L) (mty kk) sz)) (q_s_candidate10 D ks ad kk V L p0 p1 p2 bq gs gv (va_A (mw ad kk ks.1 V L) sz)) 0 0 (va_A (mw ad kk ks.1 V L) sz) := by
  refine g_met (q_s_candidate10 D ks ad kk V L p0 p1 p2 bq gs gv) (by decide) (Nat.le_of_ble_eq_true rfl) ?_
  intro p e s m below meth c A ls H locs hx hb hr hml hown hg hlocks hin hnw hgk hP hK hD hS hA hl
  have hown : s.vm.findClass RX12 = some m.cls := hown
  have hl : lv_has ls 4 [(0, .ref (ad 0)), (1, .int p0), (2, .int p1), (3, .int p2)] := hl
  have hP : va_P D vwCl (mw ad kk ks.1 V L) H := hP
  have hD : va_D A (mw ad kk ks.1 V L) := hD
  have hK : va_K D vwCl (mty kk) s := hK
  have agV : agr [(0, 0)] [80] V V := agr.rf
  have r1 : 0 ≤ ((V 0 11)).toInt ∧ ((V 0 11)).toInt ≤ 1 := hMV 0 11
  have r2 : 0 ≤ ((V 19 bq)).toInt ∧ ((V 19 bq)).toInt ≤ 24 := hMV 19 bq
  have kb9 : Int32.toNatClampNeg (V 0 11) = bq := by have h9 := i_clamp (x := V 0 11) rfl (by (first | exact om_eafa9039069c r1.1 | omega)); (first | exact om_7d9cc8d6a75e zq1 h9 | omega)
  have q19 : (V 19 (Int32.toNatClampNeg (V 0 11))).toInt = (V 19 bq).toInt := by rw [kb9]
  refine lv_aload_n hx hb dX12_candidate_0 rfl (lv_at hl 0 rfl) ?_
  refine lv_iconst (v := 0) hx hb dX12_candidate_1 (by decide) ?_
  refine va_put (D := D) (ci := 12) (v := .int 0) (ty := tyX12 0) (C := RX12) (T := TX12) (N := 100) hx hb hg inX12 tyX12 tyX12_ok nmX12 hown hK hP hD hS 0 rfl rfl 0 (by decide) (hg _ w1706) (fun _ h9 => h9) rfl (tyX12_ok 0 (by decide)) rfl rfl (Nat.le_of_ble_eq_true rfl) dX12_candidate_2 (fun H locs hP hD hS => ?_)
  obtain ⟨V3, hV3⟩ : ∃ z, z = up2 V 0 0 0 := ⟨_, rfl⟩
  have hP : va_P D vwCl (mw ad kk ks.1 V3 L) H := by rw [hV3]; exact hP
  have hD : va_D A (mw ad kk ks.1 V3 L) := by rw [hV3]; exact hD
  have hMV3 : rgd bM V3 := hMV.put hV3 (i_full _)
  have agV3 : agr [(0, 0)] [80] V V3 := agV.up hV3 rfl
  refine lv_iload_n hx hb dX12_candidate_5 rfl (lv_at hl 1 rfl) ?_
  refine lv_if_lt (tgt := 48) hx hb dX12_candidate_6 (by decide) (fun c4 => ?_) (fun c4 => ?_)
  · skip
    have f5 : p0.toInt < 0 := b_lt rfl (by decide) c4
    refine lv_iconst (v := (-1)) hx hb dX12_candidate_48 (by decide) ?_
    exact W.iret (v := (-1)) hx hb hr (fun t ht hW => ⟨⟨(-1), (V3, L), rfl, ⟨hMV3, agV3, rfl, (by rw [cnA_n (fun h9 => by have h1 := h9.1; have h2 := h9.2.1; have h3 := h9.2.2.1; have h4 := h9.2.2.2.1; have h5 := h9.2.2.2.2; omega)]; decide)⟩, by rw [ht]; exact hP, va_K.moved hW.alike hK, hD⟩, hS.F ht⟩) hS.2.2 dX12_candidate_49
  · skip
    have f6 : 0 ≤ p0.toInt := b_nlt rfl (by decide) c4
    refine lv_iload_n hx hb dX12_candidate_9 rfl (lv_at hl 1 rfl) ?_
    refine lv_aload_n hx hb dX12_candidate_10 rfl (lv_at hl 0 rfl) ?_
    refine va_get (D := D) (ci := 12) (v := .ref (ad 19)) (C := RX12) (T := TX12) (N := 100) hx hb hg inX12 hown hK hP 0 rfl rfl 19 (by decide) (hg _ w1725) (fun _ h9 => h9) rfl dX12_candidate_11 ?_
    refine lv_aload_n hx hb dX12_candidate_14 rfl (lv_at hl 0 rfl) ?_
    refine va_get (D := D) (ci := 12) (v := .int (V3 0 11)) (C := RX12) (T := TX12) (N := 100) hx hb hg inX12 hown hK hP 0 rfl rfl 11 (by decide) (hg _ w1717) (fun _ h9 => h9) rfl dX12_candidate_15 ?_
    refine g_top (v := (V 0 11)) (up2_k hV3 (by decide)) ?_
    refine va_iald (D := D) (i := (V 0 11)) hx hb hK hP 12 11 rfl rfl (i_in (a := ((V 0 11)).toInt) rfl (by (first | exact om_8367a84723c7 r1.1 r1.2 | omega))) dX12_candidate_18 ?_
    refine g_top (v := (V 19 (Int32.toNatClampNeg (V 0 11)))) (up2_o hV3 (by decide)) ?_
    have r7 : 0 ≤ ((V 19 (Int32.toNatClampNeg (V 0 11)))).toInt ∧ ((V 19 (Int32.toNatClampNeg (V 0 11)))).toInt ≤ 24 := hMV 19 (Int32.toNatClampNeg (V 0 11))
    refine lv_icmp_ge (tgt := 48) hx hb dX12_candidate_19 (by decide) (fun c8 => ?_) (fun c8 => ?_)
    · skip
      have f9 : ((V 19 (Int32.toNatClampNeg (V 0 11)))).toInt ≤ p0.toInt := b_le rfl rfl c8
      refine lv_iconst (v := (-1)) hx hb dX12_candidate_48 (by decide) ?_
      exact W.iret (v := (-1)) hx hb hr (fun t ht hW => ⟨⟨(-1), (V3, L), rfl, ⟨hMV3, agV3, rfl, (by rw [cnA_n (fun h9 => by have h1 := h9.1; have h2 := h9.2.1; have h3 := h9.2.2.1; have h4 := h9.2.2.2.1; have h5 := h9.2.2.2.2; omega)]; decide)⟩, by rw [ht]; exact hP, va_K.moved hW.alike hK, hD⟩, hS.F ht⟩) hS.2.2 dX12_candidate_49
    · skip
      have f10 : p0.toInt < ((V 19 (Int32.toNatClampNeg (V 0 11)))).toInt := b_nle rfl rfl c8
      have kc0 := i_clamp (x := p0) rfl (by (first | exact om_eafa9039069c f6 | omega))
      have k0l : (Int32.toNatClampNeg p0) < (gs.2.1 2).length := by (first | exact om_2278541b5b9f ln q19 f10 kc0 | omega)
      have g08 := (t4 _ k0l).2.1
      have fe9 : p0.toInt.toNat = (Int32.toNatClampNeg p0) := rfl
      refine lv_iload_n hx hb dX12_candidate_22 rfl (lv_at hl 2 rfl) ?_
      refine lv_if_lt (tgt := 48) hx hb dX12_candidate_23 (by decide) (fun c11 => ?_) (fun c11 => ?_)
      · skip
        have f12 : p1.toInt < 0 := b_lt rfl (by decide) c11
        refine lv_iconst (v := (-1)) hx hb dX12_candidate_48 (by decide) ?_
        exact W.iret (v := (-1)) hx hb hr (fun t ht hW => ⟨⟨(-1), (V3, L), rfl, ⟨hMV3, agV3, rfl, (by rw [cnA_n (fun h9 => by have h1 := h9.1; have h2 := h9.2.1; have h3 := h9.2.2.1; have h4 := h9.2.2.2.1; have h5 := h9.2.2.2.2; rw [fe9] at h4; omega)]; decide)⟩, by rw [ht]; exact hP, va_K.moved hW.alike hK, hD⟩, hS.F ht⟩) hS.2.2 dX12_candidate_49
      · skip
        have f13 : 0 ≤ p1.toInt := b_nlt rfl (by decide) c11
        refine lv_iload_n hx hb dX12_candidate_26 rfl (lv_at hl 2 rfl) ?_
        refine lv_aload_n hx hb dX12_candidate_27 rfl (lv_at hl 0 rfl) ?_
        refine va_get (D := D) (ci := 12) (v := .ref (ad 27)) (C := RX12) (T := TX12) (N := 100) hx hb hg inX12 hown hK hP 0 rfl rfl 27 (by decide) (hg _ w1733) (fun _ h9 => h9) rfl dX12_candidate_28 ?_
        refine lv_bipush (v := 24) hx hb dX12_candidate_31 (by decide) ?_
        refine lv_aload_n hx hb dX12_candidate_33 rfl (lv_at hl 0 rfl) ?_
        refine va_get (D := D) (ci := 12) (v := .int (V3 0 11)) (C := RX12) (T := TX12) (N := 100) hx hb hg inX12 hown hK hP 0 rfl rfl 11 (by decide) (hg _ w1717) (fun _ h9 => h9) rfl dX12_candidate_34 ?_
        refine g_top (v := (V 0 11)) (up2_k hV3 (by decide)) ?_
        refine lv_imul hx hb dX12_candidate_37 ?_
        refine lv_topi (fun z14 ez14 => ?_)
        have hz14 : z14.toInt = 24 * ((V 0 11)).toInt := i_mul ez14 (by decide) rfl (by (first | exact om_3f8aba7b6ce1 r1.1 r1.2 | omega))
        refine lv_iload_n hx hb dX12_candidate_38 rfl (lv_at hl 1 rfl) ?_
        refine lv_iadd hx hb dX12_candidate_39 ?_
        refine lv_topi (fun z15 ez15 => ?_)
        have hz15 : z15.toInt = z14.toInt + p0.toInt := i_add ez15 rfl rfl (by (first | exact om_5220ee48b31d ln ln2 r1.1 r1.2 q19 f6 f10 hz14 | omega))
        have n27 : (V 27 (Int32.toNatClampNeg z15)).toInt = ((gs.1 (66 + 8 * (Int32.toNatClampNeg p0)) : Nat) : Int) := by rw [show Int32.toNatClampNeg z15 = 24 * bq + (Int32.toNatClampNeg p0) from by have h9 := i_clamp (x := z15) rfl (by (first | exact om_19aed6992cbe r1.1 f6 hz14 hz15 | omega)); omega]; exact (com _ k0l).2.1
        refine va_iald (D := D) (i := z15) hx hb hK hP 20 19 rfl rfl (i_in (a := z15.toInt) rfl (by (first | exact om_2312635f48bf ln ln2 r1.1 r1.2 q19 f6 f10 hz14 hz15 | omega))) dX12_candidate_40 ?_
        refine g_top (v := (V 27 (Int32.toNatClampNeg z15))) (up2_o hV3 (by decide)) ?_
        have r16 : 0 ≤ ((V 27 (Int32.toNatClampNeg z15))).toInt ∧ ((V 27 (Int32.toNatClampNeg z15))).toInt ≤ 8 := hMV 27 (Int32.toNatClampNeg z15)
        refine lv_icmp_ge (tgt := 48) hx hb dX12_candidate_41 (by decide) (fun c17 => ?_) (fun c17 => ?_)
        · skip
          have f18 : ((V 27 (Int32.toNatClampNeg z15))).toInt ≤ p1.toInt := b_le rfl rfl c17
          refine lv_iconst (v := (-1)) hx hb dX12_candidate_48 (by decide) ?_
          exact W.iret (v := (-1)) hx hb hr (fun t ht hW => ⟨⟨(-1), (V3, L), rfl, ⟨hMV3, agV3, rfl, (by rw [cnA_n (fun h9 => by have h1 := h9.1; have h2 := h9.2.1; have h3 := h9.2.2.1; have h4 := h9.2.2.2.1; have h5 := h9.2.2.2.2; rw [fe9] at h4; omega)]; decide)⟩, by rw [ht]; exact hP, va_K.moved hW.alike hK, hD⟩, hS.F ht⟩) hS.2.2 dX12_candidate_49
        · skip
          have f19 : p1.toInt < ((V 27 (Int32.toNatClampNeg z15))).toInt := b_nle rfl rfl c17
          refine lv_iload_n hx hb dX12_candidate_44 rfl (lv_at hl 3 rfl) ?_
          refine lv_if_ge (tgt := 50) hx hb dX12_candidate_45 (by decide) (fun c20 => ?_) (fun c20 => ?_)
          · skip
            have f21 : 0 ≤ p2.toInt := b_le (by decide) rfl c20
            have kc1 := i_clamp (x := p1) rfl (by (first | exact om_eafa9039069c f13 | omega))
            have kc2 := i_clamp (x := p2) rfl (by (first | exact om_eafa9039069c f21 | omega))
            have j0l : (Int32.toNatClampNeg p1) < gs.1 (66 + 8 * (Int32.toNatClampNeg p0)) := by omega
            have t24 := (t4 _ k0l).2.2 (Int32.toNatClampNeg p1) j0l
            have gcl := k0l
            have gjl := j0l
            refine lv_iload_n hx hb dX12_candidate_50 rfl (lv_at hl 3 rfl) ?_
            refine lv_aload_n hx hb dX12_candidate_51 rfl (lv_at hl 0 rfl) ?_
            refine lv_bipush (v := 8) hx hb dX12_candidate_52 (by decide) ?_
            refine lv_bipush (v := 24) hx hb dX12_candidate_54 (by decide) ?_
            refine lv_aload_n hx hb dX12_candidate_56 rfl (lv_at hl 0 rfl) ?_
            refine va_get (D := D) (ci := 12) (v := .int (V3 0 11)) (C := RX12) (T := TX12) (N := 100) hx hb hg inX12 hown hK hP 0 rfl rfl 11 (by decide) (hg _ w1717) (fun _ h9 => h9) rfl dX12_candidate_57 ?_
            refine g_top (v := (V 0 11)) (up2_k hV3 (by decide)) ?_
            refine lv_imul hx hb dX12_candidate_60 ?_
            refine lv_topi (fun z22 ez22 => ?_)
            have hz22 : z22.toInt = 24 * ((V 0 11)).toInt := i_mul ez22 (by decide) rfl (by (first | exact om_3f8aba7b6ce1 r1.1 r1.2 | omega))
            refine lv_iload_n hx hb dX12_candidate_61 rfl (lv_at hl 1 rfl) ?_
            refine lv_iadd hx hb dX12_candidate_62 ?_
            refine lv_topi (fun z23 ez23 => ?_)
            have hz23 : z23.toInt = z22.toInt + p0.toInt := i_add ez23 rfl rfl (by (first | exact om_5220ee48b31d ln ln2 r1.1 r1.2 q19 f6 f10 hz22 | omega))
            refine lv_imul hx hb dX12_candidate_63 ?_
            refine lv_topi (fun z24 ez24 => ?_)
            have hz24 : z24.toInt = 8 * z23.toInt := i_mul ez24 (by decide) rfl (by (first | exact om_158d44350c37 ln ln2 r1.1 r1.2 q19 f6 f10 hz22 hz23 | omega))
            refine lv_iload_n hx hb dX12_candidate_64 rfl (lv_at hl 2 rfl) ?_
            refine lv_iadd hx hb dX12_candidate_65 ?_
            refine lv_topi (fun z25 ez25 => ?_)
            have hz25 : z25.toInt = z24.toInt + p1.toInt := i_add ez25 rfl rfl (by (first | exact om_162ff93d9492 ln ln2 r1.1 r1.2 q19 f6 f10 f13 r16.2 f19 hz22 hz23 hz24 | omega))
            have pq26 : (V3 0 11).toInt = ((V 0 11)).toInt := congrArg Int32.toInt (up2_k hV3 (by decide))
            have pq27 : (V3 19 bq).toInt = ((V 19 bq)).toInt := congrArg Int32.toInt (up2_o hV3 (by decide))
            refine gA_int (gA_runV (As := [.int z25]) (rest := [.int p2]) (ci := 12) (q0 := 0) hx hb hml hown hg hP hD hK hS hA hnw hgk (s_candidatesOf6 l D ks H.size ad kk V3 L z25 (bq) (gs) ((Int32.toNatClampNeg p0)) ((Int32.toNatClampNeg p1)) hMV3 (by (first | exact om_3de30c5059a0 ln ln2 r1.1 r1.2 q19 f6 f10 f13 r16.2 f19 hz22 hz23 hz24 hz25 | omega)) (show ((bq) : Int) = (V3 0 11).toInt from by (first | exact om_9495d81bd5ca zq1 pq26 | omega)) (show z25.toInt = ((8 * (24 * (bq) + ((Int32.toNatClampNeg p0))) + ((Int32.toNatClampNeg p1)) : Nat) : Int) from by (first | exact om_7018c714c2d5 zq1 kc0 kc1 hz22 hz23 hz24 hz25 | omega)) gcl gjl t24 (COM.ag com (by rw [(up2_fo hV3 (by decide) : V3 21 = V 21)] : V3 21 = V 21) (by rw [(up2_fo hV3 (by decide) : V3 22 = V 22)] : V3 22 = V 22) (by rw [(up2_fo hV3 (by decide) : V3 23 = V 23)] : V3 23 = V 23) (by rw [(up2_fo hV3 (by decide) : V3 24 = V 24)] : V3 24 = V 24) (by rw [(up2_fo hV3 (by decide) : V3 25 = V 25)] : V3 25 = V 25) (by rw [(up2_fo hV3 (by decide) : V3 26 = V 26)] : V3 26 = V 26) (by rw [(up2_fo hV3 (by decide) : V3 27 = V 27)] : V3 27 = V 27) (by rw [(up2_fo hV3 (by decide) : V3 28 = V 28)] : V3 28 = V 28) (by rw [(up2_fo hV3 (by decide) : V3 29 = V 29)] : V3 29 = V 29) (by rw [(up2_fo hV3 (by decide) : V3 30 = V 30)] : V3 30 = V 30) (by rw [(up2_fo hV3 (by decide) : V3 31 = V 31)] : V3 31 = V 31)) (show (V3 19 (bq)).toInt = ((((gs).2.1 2).length : Nat) : Int) from by (first | exact om_adf531c77a0d ln pq27 | omega)) wh) w2172 w2174 w119 w172 w2175 rfl rfl hdV_yX12_candidatesOf ⟨Nat.le_of_ble_eq_true rfl, Nat.le_of_ble_eq_true rfl⟩ rfl hl.1 rfl (Nat.le_of_ble_eq_true rfl) dX12_candidate_66 ⟨Nat.le_of_ble_eq_true rfl, Nat.le_of_ble_eq_true rfl⟩) hP hD hK hS hA (fun z28 u29 H locs w30 hP hD hK hS => ?_)
            obtain ⟨V32, L33⟩ := u29
            obtain ⟨hMV32, ajV32, axL33, rgz28, t31⟩ := w30
            have axL33 : L = L33 := Eq.symm axL33
            subst axL33
            have hP : va_P D vwCl (mw ad kk ks.1 V32 L) H := hP
            have hD : va_D A (mw ad kk ks.1 V32 L) := hD
            have hMV32 : rgd bM V32 := hMV32
            have ajV32 : agr [] [80] V3 V32 := ajV32
            have agV32 : agr [(0, 0)] [80] V V32 := agV3.tr ajV32 (by decide) (by decide)
            have rgz28 : 0 ≤ z28.toInt ∧ z28.toInt ≤ 24 := rgz28
            have t31 : CLV V32 80 (CLP (gs).1 (svm V3 (bq) ((gs).2.1 1).length) ((gs).1 (301 + 32 * ((Int32.toNatClampNeg p0)) + 4 * ((Int32.toNatClampNeg p1)))) ((gs).1 (300 + 32 * ((Int32.toNatClampNeg p0)) + 4 * ((Int32.toNatClampNeg p1)))) ((gs).1 (302 + 32 * ((Int32.toNatClampNeg p0)) + 4 * ((Int32.toNatClampNeg p1)))) ((gs).2.1 2).length ((gs).2.1 2).length) z28.toInt := t31
            have cv9 : CLV V32 80 (clF gs.1 gv (gs.2.1 2).length (Int32.toNatClampNeg p0) (Int32.toNatClampNeg p1)) z28.toInt := by have h9 := t31; rw [(svm_fo hsv (by rw [(up2_fo hV3 (by decide) : V3 18 = V 18)] : V3 18 = V 18))] at h9; exact h9
            have ll9 := cv9.1
            refine lv_icmp_ge (tgt := 81) hx hb dX12_candidate_69 (by decide) (fun c34 => ?_) (fun c34 => ?_)
            · skip
              have f35 : z28.toInt ≤ p2.toInt := b_le rfl rfl c34
              refine lv_iconst (v := (-1)) hx hb dX12_candidate_81 (by decide) ?_
              exact W.iret (v := (-1)) hx hb hr (fun t ht hW => ⟨⟨(-1), (V32, L), rfl, ⟨hMV32, agV32, rfl, (by rw [cnA_y (a := (Int32.toNatClampNeg p0)) (b := (Int32.toNatClampNeg p1)) (k := (Int32.toNatClampNeg p2)) (by omega) (by omega) (by omega) k0l j0l, nth_n (show (clF gs.1 gv (gs.2.1 2).length (Int32.toNatClampNeg p0) (Int32.toNatClampNeg p1)).length ≤ (Int32.toNatClampNeg p2) from by omega)]; decide)⟩, by rw [ht]; exact hP, va_K.moved hW.alike hK, hD⟩, hS.F ht⟩) hS.2.2 dX12_candidate_82
            · skip
              have f36 : p2.toInt < z28.toInt := b_nle rfl rfl c34
              refine lv_aload_n hx hb dX12_candidate_72 rfl (lv_at hl 0 rfl) ?_
              refine va_get (D := D) (ci := 12) (v := .ref (ad 80)) (C := RX12) (T := TX12) (N := 100) hx hb hg inX12 hown hK hP 0 rfl rfl 80 (by decide) (hg _ w1786) (fun _ h9 => h9) rfl dX12_candidate_73 ?_
              refine lv_iload_n hx hb dX12_candidate_76 rfl (lv_at hl 3 rfl) ?_
              refine va_iald (D := D) (i := p2) hx hb hK hP 57 56 rfl rfl (i_in (a := p2.toInt) rfl (by (first | exact om_f72f4702fe79 f21 rgz28.2 f36 | omega))) dX12_candidate_77 ?_
              have r37 : 0 ≤ ((V32 80 (Int32.toNatClampNeg p2))).toInt ∧ ((V32 80 (Int32.toNatClampNeg p2))).toInt ≤ 23 := hMV32 80 (Int32.toNatClampNeg p2)
              refine lv_goto (tgt := 82) hx hb dX12_candidate_78 (by decide) ?_
              exact W.iret (v := (V32 80 (Int32.toNatClampNeg p2))) hx hb hr (fun t ht hW => ⟨⟨(V32 80 (Int32.toNatClampNeg p2)), (V32, L), rfl, ⟨hMV32, agV32, rfl, (by rw [cnA_y (a := (Int32.toNatClampNeg p0)) (b := (Int32.toNatClampNeg p1)) (k := (Int32.toNatClampNeg p2)) (by omega) (by omega) (by omega) k0l j0l, nth_y (List.getElem?_eq_getElem (show (Int32.toNatClampNeg p2) < (clF gs.1 gv (gs.2.1 2).length (Int32.toNatClampNeg p0) (Int32.toNatClampNeg p1)).length from by omega))]; exact cv9.2 (Int32.toNatClampNeg p2) (by omega))⟩, by rw [ht]; exact hP, va_K.moved hW.alike hK, hD⟩, hS.F ht⟩) hS.2.2 dX12_candidate_82
          · skip
            have f38 : p2.toInt < 0 := b_nle (by decide) rfl c20
            refine lv_iconst (v := (-1)) hx hb dX12_candidate_48 (by decide) ?_
            exact W.iret (v := (-1)) hx hb hr (fun t ht hW => ⟨⟨(-1), (V3, L), rfl, ⟨hMV3, agV3, rfl, (by rw [cnA_n (fun h9 => by have h1 := h9.1; have h2 := h9.2.1; have h3 := h9.2.2.1; have h4 := h9.2.2.2.1; have h5 := h9.2.2.2.2; rw [fe9] at h4; omega)]; decide)⟩, by rw [ht]; exact hP, va_K.moved hW.alike hK, hD⟩, hS.F ht⟩) hS.2.2 dX12_candidate_49
end
section
/-! what component() tells -/
def cpV (f : Nat → Nat) (sv : Nat → Int) (c : Nat) (w : Int) : Int := if w = 0 then ((f (61 + 8 * c) : Nat) : Int) else if w = 1 then ((f (63 + 8 * c) : Nat) : Int) else if w = 2 then (if thP f sv c = true then 1 else 0) else if w = 3 then ((f (66 + 8 * c) : Nat) : Int) else ((f (62 + 8 * c) : Nat) : Int) - 1
section CPV
variable {f : Nat → Nat} {sv : Nat → Int} {c : Nat} {w : Int}
end CPV


abbrev r_x_h_component9 : Room := { frames := 10, cells := 1, slots := 6, locals := 200 }
abbrev q_x_h_component9 (D : va_G) (ks : KS) (ad : Nat → Nat) (kk : Nat → ClassId) (V : Vf) (L : Lf) (Z : XZ) (p0 : Int32) (p1 : Int32) (b : Nat) (gs : St) (gv : Nat → Int) (A : Nat → Prop) : Array Value → State → Outcome → State → Prop := va_Qi (fun (r : Int32) (_ : Unit) => (r.toInt = cpV gs.1 gv (Int32.toNatClampNeg p0) p1.toInt)) (fun _ t => gq D A (xw ad kk V L Z) (xty kk Z) t) A
abbrev r_x_h_component9n : Room := { frames := 10, cells := 1, slots := 6, locals := 200 }
abbrev q_x_h_component9n (D : va_G) (ks : KS) (ad : Nat → Nat) (kk : Nat → ClassId) (V : Vf) (L : Lf) (Z : XZ) (p0 : Int32) (p1 : Int32) (b : Nat) (gs : St) (A : Nat → Prop) : Array Value → State → Outcome → State → Prop := va_Qi (fun (r : Int32) (_ : Unit) => (False)) (fun _ t => gq D A (xw ad kk V L Z) (xty kk Z) t) A
abbrev r_x_L_component9 : Room := { frames := 20, cells := 1, slots := 6, locals := 300 }
abbrev q_x_L_component9 (D : va_G) (ad : Nat → Nat) (kk : Nat → ClassId) (V : Vf) (L : Lf) (Z : XZ) (p0 p1 : Int32) (gs : St) (gv : Nat → Int) (ao : Nat) (ka : ClassId) (A : Nat → Prop) : Array Value → State → Outcome → State → Prop := va_Qi (fun (r : Int32) (u : Nat → Int64) => (((0 ≤ p0.toInt ∧ p0.toInt < (((gs.2.1 2).length : Nat) : Int) ∧ 0 ≤ p1.toInt ∧ p1.toInt ≤ 4) ∧ r = 0 ∧ (u 0).toInt = cpV gs.1 gv (Int32.toNatClampNeg p0) p1.toInt) ∨ (¬ (0 ≤ p0.toInt ∧ p0.toInt < (((gs.2.1 2).length : Nat) : Int) ∧ 0 ≤ p1.toInt ∧ p1.toInt ≤ 4) ∧ r = 1))) (fun u t => gq D A ((ao, .inl (ka, 1, .inr (.inl u))) :: xw ad kk V L Z) ((ka, .long) :: xty kk Z) t) A
abbrev r_s_component9 : Room := { frames := 1, cells := 0, slots := 0, locals := 22 }
abbrev q_s_component9 (D : va_G) (ks : KS) (ad : Nat → Nat) (kk : Nat → ClassId) (V : Vf) (L : Lf) (p0 : Int32) (p1 : Int32) (bq : Nat) (gs : St) (gv : Nat → Int) (A : Nat → Prop) : Array Value → State → Outcome → State → Prop := va_Qi (fun (r : Int32) (u : Vf × Lf) => rgd bM u.1 ∧ agr [(0, 0)] [] V u.1 ∧ u.2 = L ∧ (((0 ≤ p0.toInt ∧ p0.toInt < (((gs.2.1 2).length : Nat) : Int) ∧ 0 ≤ p1.toInt ∧ p1.toInt ≤ 4) ∧ (u.1 0 0).toInt = 0 ∧ r.toInt = cpV gs.1 gv (Int32.toNatClampNeg p0) p1.toInt) ∨ (¬ (0 ≤ p0.toInt ∧ p0.toInt < (((gs.2.1 2).length : Nat) : Int) ∧ 0 ≤ p1.toInt ∧ p1.toInt ≤ 4) ∧ (u.1 0 0).toInt = 1))) (fun u t => gq D A (mw ad kk ks.1 u.1 u.2) (mty kk) t) A
end
