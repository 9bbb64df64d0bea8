/-! named(): what both answer -/
def nmF (T : Tk) (s : St) (j : Int) : Int := if T.1 0 = 3 ∧ T.1 1 = 0 ∧ 0 ≤ j ∧ j < 5 then (match fndI (s.2.1 j.toNat) (T.2.1 0) with | some i => (i : Int) | none => -1) else -1
theorem nmF_n {T : Tk} {s : St} {j : Int} (h : ¬ (T.1 0 = 3 ∧ T.1 1 = 0 ∧ 0 ≤ j ∧ j < 5)) : nmF T s j = -1 := if_neg h
theorem nmF_y {T : Tk} {s : St} {j : Nat} {i : Nat} (h : T.1 0 = 3) (h1 : T.1 1 = 0) (hj : j < 5) (e : fndI (s.2.1 j) (T.2.1 0) = some i) : nmF T s (j : Int) = (i : Int) := by
  unfold nmF
  rw [if_pos ⟨h, h1, by omega, by omega⟩, Int.toNat_natCast, e]
theorem nmF_e {T : Tk} {s : St} {j : Nat} (h : T.1 0 = 3) (h1 : T.1 1 = 0) (hj : j < 5) (e : fndI (s.2.1 j) (T.2.1 0) = none) : nmF T s (j : Int) = -1 := by
  unfold nmF
  rw [if_pos ⟨h, h1, by omega, by omega⟩, Int.toNat_natCast, e]
theorem NF.nm {V : Vf} {L : Lf} {T : Tk} {b j : Nat} {s : St} {w : Int64} {r : Int} (h : NF (fun i => L 44 (24 * (5 * b + j) + i)) (V 43 (5 * b + j)).toInt w r) (t : TBc V L b s) (hj : j < 5) (k0 : T.1 0 = 3) (k1 : T.1 1 = 0) (hw : T.2.1 0 = w) : r = nmF T s (j : Int) := by
  rcases (show r = -1 ∨ 0 ≤ r from by rcases h with ⟨q, _⟩ | ⟨i, q, _⟩ <;> omega) with c | c
  · rw [nmF_e k0 k1 hj (by rw [hw]; exact h.no (t j hj) c)]
    exact c
  · rw [nmF_y k0 k1 hj (by rw [hw]; exact h.yes (t j hj) c)]
    omega
theorem CTE.k1 {V W W1 : Vf} {L M M1 : Lf} (c : CTE V L W M) (u : CUR W1 M1 (Int32.toNatClampNeg (W 6 8))) (e12 : W1 12 = W 12) (h3 : (W 12 0).toInt = 3) : (W1 6 9).toInt = (W 12 1).toInt := by
  have cu := c.2.2.2.2
  have z := cu.2.2.2.2
  have t0 := cu.1
  by_cases d : (((0 : Nat) : Int)) < (W 6 7).toInt
  · rw [if_pos d] at z
    have kc := i_clamp (x := W 6 8) rfl (by omega)
    have e1 : Int32.toNatClampNeg (W 6 8) = 1 := by omega
    rw [e1] at u
    rw [u.2.1, e12]
  · have e0 : (W 6 7).toInt.toNat = 0 := by omega
    have y := c.2.2.1
    rw [e0] at y
    rw [y] at h3
    exact absurd h3 (by decide)
theorem TkM.nm0 {V : Vf} {L : Lf} {T : Tk} {n : Nat} (t : TkM V L T n) (h : (V 4 0).toInt ≠ 1) : T.1 0 ≠ 3 := by
  intro e
  rcases Nat.eq_zero_or_pos n with d | d
  · subst d
    have y := t.2.2.1
    omega
  · exact h ((t.2.1 0 d).1.nm.mpr e).1
theorem TkM.nm1 {V : Vf} {L : Lf} {T : Tk} {n : Nat} (t : TkM V L T n) (h0 : (V 4 0).toInt = 1) (h1 : (V 4 1).toInt ≠ 0) : T.1 1 ≠ 0 := by
  rcases (show n = 0 ∨ n = 1 ∨ 1 < n from by omega) with d | d | d
  · subst d
    have y := t.2.2.2.1
    omega
  · subst d
    exact absurd t.2.2.2.1 h1
  · have y := (t.2.1 1 d).1.rg
    omega
theorem TkM.nm2 {V : Vf} {L : Lf} {T : Tk} {n : Nat} (t : TkM V L T n) (h0 : (V 4 0).toInt = 1) (h1 : (V 4 1).toInt = 0) : T.1 1 = 0 ∧ ((T.1 0 = 3 ∧ T.2.1 0 = L 6 0) ∨ (T.1 0 ≠ 3 ∧ ∃ k : Nat, k < 28 ∧ kg 155 k = L 6 0)) := by
  rcases (show n = 0 ∨ n = 1 ∨ 1 < n from by omega) with d | d | d
  · subst d
    have y := t.2.2.2.1
    omega
  · subst d
    refine ⟨t.2.2.1, ?_⟩
    have y := (t.2.1 0 (by decide)).1
    by_cases c : T.1 0 = 3
    · exact Or.inl ⟨c, y.vl (Or.inr c)⟩
    · refine Or.inr ⟨c, ?_⟩
      rcases y with y | y | ⟨_, y, _⟩ | ⟨y, _⟩
      · omega
      · omega
      · rcases y with ⟨y, _⟩ | ⟨k, a, _, b⟩
        · exact absurd y c
        · exact ⟨k, a, b⟩
      · omega
  · have y := (t.2.1 1 d).1.rg
    omega
theorem LF.nm {f : Nat → Int64} {m : Int} {w : Int64} {r : Int} {T : Tk} {s : St} {j : Nat} (lf : LF f m w r) (ls : LSw (s.2.1 j) f m) (nd : NDl (s.2.1 j)) (nk : ∀ x, x ∈ s.2.1 j → ∀ k : Nat, k < 28 → x ≠ kg 155 k) (hj : j < 5) (d : T.1 1 = 0 ∧ ((T.1 0 = 3 ∧ T.2.1 0 = w) ∨ (T.1 0 ≠ 3 ∧ ∃ k : Nat, k < 28 ∧ kg 155 k = w))) : r = nmF T s (j : Int) := by
  rcases d with ⟨d1, ⟨a, b⟩ | ⟨a, k, hk, b⟩⟩
  · rcases (show r = -1 ∨ 0 ≤ r from by rcases lf with ⟨q, _⟩ | ⟨i, q, _⟩ <;> omega) with c | c
    · rw [nmF_e a d1 hj (by rw [b]; exact lf.no ls c)]
      exact c
    · rw [nmF_y a d1 hj (by rw [b]; exact lf.yes ls nd c)]
      omega
  · rw [nmF_n (fun q => a q.1)]
    rcases lf with ⟨q, _⟩ | ⟨i, q, qi, qf⟩
    · exact q
    · exfalso
      have hl : i < (s.2.1 j).length := by have := ls.1; omega
      have e := ls.2 i hl
      exact nk _ (List.getElem_mem hl) k hk (by rw [e, qf, b])
/-! what the law keeps of the names -/
def LN4 (V : Vf) (L : Lf) (b : Nat) (Vm : Vf) (Lm : Lf) (q : Nat) : Prop := ∃ s : St, TBc V L b s ∧ TBm Vm Lm q s (s.2.1 2) ∧ NKs s
theorem LSw.row {l : List Int64} {f g : Nat → Int64} {n : Int} (h : LSw l f n) (e : ∀ i, i < l.length → g i = f i) : LSw l g n := ⟨h.1, fun i hi => by rw [h.2 i hi, e i hi]⟩
theorem TBc.row {V W : Vf} {L M : Lf} {b b1 : Nat} {s : St} (h : TBc V L b s) (hM : rgd bX V) (hb : b + b1 = 1) (hV : ∀ k, ¬ (5 * b1 ≤ k ∧ k < 5 * b1 + 5) → W 43 k = V 43 k) (hL : ROWL b1 L M) : TBc W M b s := by
  intro j hj
  have z := h j hj
  have c2 : (V 43 (5 * b + j)).toInt ≤ ((xcap (5 * b + j) : Nat) : Int) := (hM 43 _).2
  have c3 := (xcap_le (5 * b + j)).2
  have c := z.1
  rw [hV _ (by omega)]
  exact z.row (fun i hi => hL _ (by omega))
theorem TBm.row {V W : Vf} {L M : Lf} {q q' : Nat} {s : St} {l2 : List Int64} (h : TBm V L q s l2) (hM : rgd bM V) (hq : q + q' = 1) (v13 : RoV 13 q' V W) (v16 : RoV 16 q' V W) (v19 : RoV 19 q' V W) (v35 : RoV 35 q' V W) (v37 : RoV 37 q' V W) (l14 : RoL 14 24 q' L M) (l17 : RoL 17 12 q' L M) (l20 : RoL 20 24 q' L M) (l36 : RoL 36 20 q' L M) (l38 : RoL 38 20 q' L M) : TBm W M q s l2 := by
  have n : ¬ q = q' := by omega
  have b13 : (V 13 q).toInt ≤ 24 := (hM 13 q).2
  have b16 : (V 16 q).toInt ≤ 12 := (hM 16 q).2
  have b19 : (V 19 q).toInt ≤ 24 := (hM 19 q).2
  have b35 : (V 35 q).toInt ≤ 20 := (hM 35 q).2
  have b37 : (V 37 q).toInt ≤ 20 := (hM 37 q).2
  obtain ⟨⟨a0, d0⟩, ⟨a1, d1⟩, ⟨a2, d2⟩, ⟨a3, d3⟩, ⟨a4, d4⟩⟩ := h
  have c0 := a0.1
  have c1 := a1.1
  have c2 := a2.1
  have c3 := a3.1
  have c4 := a4.1
  unfold TBm
  rw [v13 q n, v16 q n, v19 q n, v35 q n, v37 q n]
  exact ⟨⟨a0.row (fun i hi => l14 _ (by omega)), d0⟩, ⟨a1.row (fun i hi => l17 _ (by omega)), d1⟩, ⟨a2.row (fun i hi => l20 _ (by omega)), d2⟩, ⟨a3.row (fun i hi => l36 _ (by omega)), d3⟩, ⟨a4.row (fun i hi => l38 _ (by omega)), d4⟩⟩
theorem LN4.mv {V V1 Vm Vm1 : Vf} {L L1 Lm Lm1 : Lf} {b q : Nat} (h : LN4 V L b Vm Lm q) (e43 : V1 43 = V 43) (m44 : L1 44 = L 44) (e13 : Vm1 13 = Vm 13) (e16 : Vm1 16 = Vm 16) (e19 : Vm1 19 = Vm 19) (e35 : Vm1 35 = Vm 35) (e37 : Vm1 37 = Vm 37) (m14 : Lm1 14 = Lm 14) (m17 : Lm1 17 = Lm 17) (m20 : Lm1 20 = Lm 20) (m36 : Lm1 36 = Lm 36) (m38 : Lm1 38 = Lm 38) : LN4 V1 L1 b Vm1 Lm1 q := by
  obtain ⟨s, a, c, d⟩ := h
  exact ⟨s, a.mv e43 m44, c.ag (congrFun e13 q) (congrFun e16 q) (congrFun e19 q) (congrFun e35 q) (congrFun e37 q) m14 m17 m20 m36 m38 rfl, d⟩
theorem BRES.fin {T : Tk} {a : Int} {P : St → Prop} {s' : St} (h : BRES T a P) (k : Rc T (Crun St0 [Istmt]) (Cdone s')) : P s' := by
  unfold BRES at h
  rcases h with ⟨_, s, h1, p⟩ | h1
  · have z := h1.uq k trivial trivial
    injection z with z
    injection z with z
    rw [← z]
    exact p
  · have z := h1.uq k trivial trivial
    injection z with z
    cases z


abbrev r_x_numberOf4 : Room := { frames := 1, cells := 0, slots := 0, locals := 23 }
abbrev q_x_numberOf4 (D : va_G) (ks : KS) (ad : Nat → Nat) (kk : Nat → ClassId) (V : Vf) (L : Lf) (Z : XZ) (p0 : Int64) (p1 : Int32) (b : Nat) (A : Nat → Prop) : Array Value → State → Outcome → State → Prop := va_Qi (fun (r : Int32) (_ : Unit) => ((∀ j : Nat, j < 5 → p1.toInt = (j : Int) → NF (fun i => L 44 (24 * (5 * b + j) + i)) (V 43 (5 * b + j)).toInt p0 r.toInt) ∧ (¬ (0 ≤ p1.toInt ∧ p1.toInt < 5) → r.toInt = -1))) (fun _ t => gq D A (xw ad kk V L Z) (xty kk Z) t) A
set_option maxHeartbeats 4000000 in
set_option maxRecDepth 100000 in
theorem x_numberOf4 (l : Launch) (D : va_G) (ks : KS) (sz : Nat) (ad : Nat → Nat) (kk : Nat → ClassId) (V : Vf) (L : Lf) (Z : XZ) (p0 : Int64) (p1 : Int32) (b : Nat) (hMV : rgd bX V) (hb2 : b < 2)  : Met l yX0_numberOf (Cond.code yX0_numberOf cX0_numberOf 4 (some .int) :: GW) r_x_numberOf4 (va_Pc [.ref (ad (38 + b)), .long p0, .int p1] (gp D ks (xw ad kk V L Z) (xty kk Z) sz)) (q_x_numberOf4 D ks ad kk V L Z p0 p1 b (va_A (xw ad kk V L Z) sz)) 0 0 (va_A (xw ad kk V L Z) sz) := by
  refine g_met (q_x_numberOf4 D ks ad kk V L Z p0 p1 b) (by decide) (Nat.le_of_ble_eq_true rfl) ?_
  intro p e s m below meth c A ls H locs hx hb hr hml hown hg hlocks hin hnw hgk hP hK hD hS hA hl
  replace hown : s.vm.findClass RX0 = some m.cls := hown
  replace hl : lv_has ls 4 [(0, .ref (ad (38 + b))), (1, .long p0), (3, .int p1)] := hl
  replace hP : va_P D vwCl (xw ad kk V L Z) H := hP
  replace hD : va_D A (xw ad kk V L Z) := hD
  replace hK : va_K D vwCl (xty kk Z) s := hK
  have rf_p1 := i_full p1
  refine lv_iload_n hx hb dX0_numberOf_0 rfl (lv_at hl 2 rfl) ?_
  by_cases q1 : p1 = 0
  · refine g_top (v := 0) q1 ?_
    have fq1 : p1.toInt = 0 := b_eq rfl (by decide) q1
    refine lv_tableIn (x := 0) (off := 35) (tgt := 36) hx hb dX0_numberOf_1 (by decide) (by decide) (by decide) (by decide) ?_
    refine lv_aload_n hx hb dX0_numberOf_36 rfl (lv_at hl 0 rfl) ?_
    refine va_get (D := D) (ci := 0) (v := .ref (ad (40 + (5 * b + 0)))) (fs := (xfBook ad V b)) (C := RX0) (T := TX0) (N := 13) hx hb hg inX0 hown hK hP (38 + b) (xgBook hb2) rfl 0 (by decide) (hg _ w593) (fun _ h9 => h9) rfl dX0_numberOf_37 ?_
    refine lv_lload_n hx hb dX0_numberOf_40 rfl (lv_at hl 1 rfl) ?_
    have il2 : (5 * b + 0) < 10 := by (first | exact om_99c4753a5d76 hb2 | omega)
    refine gA_int (gA_runV (As := [.long p0]) (rest := []) (ci := 6) (q0 := (40 + (5 * b + 0))) hx hb hml hown hg hP hD hK hS hA hnw hgk (x_find2 l D ks H.size ad kk V L Z p0 ((5 * b + 0)) hMV (show (5 * b + 0) < 10 from by (first | exact om_99c4753a5d76 hb2 | omega))) w880 w881 w882 w168 w883 rfl (xgNames il2) hdV_yX6_find ⟨Nat.le_of_ble_eq_true rfl, Nat.le_of_ble_eq_true rfl⟩ rfl hl.1 rfl (Nat.le_of_ble_eq_true rfl) dX0_numberOf_41 ⟨Nat.le_of_ble_eq_true rfl, Nat.le_of_ble_eq_true rfl⟩) hP hD hK hS hA (fun z3 u4 H locs w5 hP hD hK hS => ?_)
    obtain ⟨rgz3, t6, t7⟩ := w5
    replace rgz3 : (-1) ≤ z3.toInt ∧ z3.toInt ≤ 23 := rgz3
    replace t6 : z3.toInt < (V 43 (5 * b + 0)).toInt := t6
    replace t7 : NF (fun i => L 44 (24 * (5 * b + 0) + i)) (V 43 (5 * b + 0)).toInt p0 z3.toInt := t7
    exact W.iret (v := z3) hx hb hr (fun t ht hW => ⟨⟨z3, (), rfl, ⟨fun j hj e9 => (show j = 0 from by omega) ▸ t7, fun h9 => absurd ⟨by omega, by omega⟩ h9⟩, by rw [ht]; exact hP, va_K.moved hW.alike hK, hD⟩, hS.F ht⟩) hS.2.2 dX0_numberOf_44
  by_cases q8 : p1 = 1
  · refine g_top (v := 1) q8 ?_
    have fq8 : p1.toInt = 1 := b_eq rfl (by decide) q8
    refine lv_tableIn (x := 1) (off := 44) (tgt := 45) hx hb dX0_numberOf_1 (by decide) (by decide) (by decide) (by decide) ?_
    refine lv_aload_n hx hb dX0_numberOf_45 rfl (lv_at hl 0 rfl) ?_
    refine va_get (D := D) (ci := 0) (v := .ref (ad (40 + (5 * b + 1)))) (fs := (xfBook ad V b)) (C := RX0) (T := TX0) (N := 13) hx hb hg inX0 hown hK hP (38 + b) (xgBook hb2) rfl 1 (by decide) (hg _ w596) (fun _ h9 => h9) rfl dX0_numberOf_46 ?_
    refine lv_lload_n hx hb dX0_numberOf_49 rfl (lv_at hl 1 rfl) ?_
    have il9 : (5 * b + 1) < 10 := by (first | exact om_3891d7acfde9 hb2 | omega)
    refine gA_int (gA_runV (As := [.long p0]) (rest := []) (ci := 6) (q0 := (40 + (5 * b + 1))) hx hb hml hown hg hP hD hK hS hA hnw hgk (x_find2 l D ks H.size ad kk V L Z p0 ((5 * b + 1)) hMV (show (5 * b + 1) < 10 from by (first | exact om_3891d7acfde9 hb2 | omega))) w880 w881 w882 w168 w883 rfl (xgNames il9) hdV_yX6_find ⟨Nat.le_of_ble_eq_true rfl, Nat.le_of_ble_eq_true rfl⟩ rfl hl.1 rfl (Nat.le_of_ble_eq_true rfl) dX0_numberOf_50 ⟨Nat.le_of_ble_eq_true rfl, Nat.le_of_ble_eq_true rfl⟩) hP hD hK hS hA (fun z10 u11 H locs w12 hP hD hK hS => ?_)
    obtain ⟨rgz10, t13, t14⟩ := w12
    replace rgz10 : (-1) ≤ z10.toInt ∧ z10.toInt ≤ 23 := rgz10
    replace t13 : z10.toInt < (V 43 (5 * b + 1)).toInt := t13
    replace t14 : NF (fun i => L 44 (24 * (5 * b + 1) + i)) (V 43 (5 * b + 1)).toInt p0 z10.toInt := t14
    exact W.iret (v := z10) hx hb hr (fun t ht hW => ⟨⟨z10, (), rfl, ⟨fun j hj e9 => (show j = 1 from by omega) ▸ t14, fun h9 => absurd ⟨by omega, by omega⟩ h9⟩, by rw [ht]; exact hP, va_K.moved hW.alike hK, hD⟩, hS.F ht⟩) hS.2.2 dX0_numberOf_53
  by_cases q15 : p1 = 2
  · refine g_top (v := 2) q15 ?_
    have fq15 : p1.toInt = 2 := b_eq rfl (by decide) q15
    refine lv_tableIn (x := 2) (off := 53) (tgt := 54) hx hb dX0_numberOf_1 (by decide) (by decide) (by decide) (by decide) ?_
    refine lv_aload_n hx hb dX0_numberOf_54 rfl (lv_at hl 0 rfl) ?_
    refine va_get (D := D) (ci := 0) (v := .ref (ad (40 + (5 * b + 2)))) (fs := (xfBook ad V b)) (C := RX0) (T := TX0) (N := 13) hx hb hg inX0 hown hK hP (38 + b) (xgBook hb2) rfl 2 (by decide) (hg _ w599) (fun _ h9 => h9) rfl dX0_numberOf_55 ?_
    refine lv_lload_n hx hb dX0_numberOf_58 rfl (lv_at hl 1 rfl) ?_
    have il16 : (5 * b + 2) < 10 := by (first | exact om_1478e52fbf50 hb2 | omega)
    refine gA_int (gA_runV (As := [.long p0]) (rest := []) (ci := 6) (q0 := (40 + (5 * b + 2))) hx hb hml hown hg hP hD hK hS hA hnw hgk (x_find2 l D ks H.size ad kk V L Z p0 ((5 * b + 2)) hMV (show (5 * b + 2) < 10 from by (first | exact om_1478e52fbf50 hb2 | omega))) w880 w881 w882 w168 w883 rfl (xgNames il16) hdV_yX6_find ⟨Nat.le_of_ble_eq_true rfl, Nat.le_of_ble_eq_true rfl⟩ rfl hl.1 rfl (Nat.le_of_ble_eq_true rfl) dX0_numberOf_59 ⟨Nat.le_of_ble_eq_true rfl, Nat.le_of_ble_eq_true rfl⟩) hP hD hK hS hA (fun z17 u18 H locs w19 hP hD hK hS => ?_)
    obtain ⟨rgz17, t20, t21⟩ := w19
    replace rgz17 : (-1) ≤ z17.toInt ∧ z17.toInt ≤ 23 := rgz17
    replace t20 : z17.toInt < (V 43 (5 * b + 2)).toInt := t20
    replace t21 : NF (fun i => L 44 (24 * (5 * b + 2) + i)) (V 43 (5 * b + 2)).toInt p0 z17.toInt := t21
    exact W.iret (v := z17) hx hb hr (fun t ht hW => ⟨⟨z17, (), rfl, ⟨fun j hj e9 => (show j = 2 from by omega) ▸ t21, fun h9 => absurd ⟨by omega, by omega⟩ h9⟩, by rw [ht]; exact hP, va_K.moved hW.alike hK, hD⟩, hS.F ht⟩) hS.2.2 dX0_numberOf_62
  by_cases q22 : p1 = 3
  · refine g_top (v := 3) q22 ?_
    have fq22 : p1.toInt = 3 := b_eq rfl (by decide) q22
    refine lv_tableIn (x := 3) (off := 62) (tgt := 63) hx hb dX0_numberOf_1 (by decide) (by decide) (by decide) (by decide) ?_
    refine lv_aload_n hx hb dX0_numberOf_63 rfl (lv_at hl 0 rfl) ?_
    refine va_get (D := D) (ci := 0) (v := .ref (ad (40 + (5 * b + 3)))) (fs := (xfBook ad V b)) (C := RX0) (T := TX0) (N := 13) hx hb hg inX0 hown hK hP (38 + b) (xgBook hb2) rfl 3 (by decide) (hg _ w603) (fun _ h9 => h9) rfl dX0_numberOf_64 ?_
    refine lv_lload_n hx hb dX0_numberOf_67 rfl (lv_at hl 1 rfl) ?_
    have il23 : (5 * b + 3) < 10 := by (first | exact om_a4f98a710256 hb2 | omega)
    refine gA_int (gA_runV (As := [.long p0]) (rest := []) (ci := 6) (q0 := (40 + (5 * b + 3))) hx hb hml hown hg hP hD hK hS hA hnw hgk (x_find2 l D ks H.size ad kk V L Z p0 ((5 * b + 3)) hMV (show (5 * b + 3) < 10 from by (first | exact om_a4f98a710256 hb2 | omega))) w880 w881 w882 w168 w883 rfl (xgNames il23) hdV_yX6_find ⟨Nat.le_of_ble_eq_true rfl, Nat.le_of_ble_eq_true rfl⟩ rfl hl.1 rfl (Nat.le_of_ble_eq_true rfl) dX0_numberOf_68 ⟨Nat.le_of_ble_eq_true rfl, Nat.le_of_ble_eq_true rfl⟩) hP hD hK hS hA (fun z24 u25 H locs w26 hP hD hK hS => ?_)
    obtain ⟨rgz24, t27, t28⟩ := w26
    replace rgz24 : (-1) ≤ z24.toInt ∧ z24.toInt ≤ 23 := rgz24
    replace t27 : z24.toInt < (V 43 (5 * b + 3)).toInt := t27
    replace t28 : NF (fun i => L 44 (24 * (5 * b + 3) + i)) (V 43 (5 * b + 3)).toInt p0 z24.toInt := t28
    exact W.iret (v := z24) hx hb hr (fun t ht hW => ⟨⟨z24, (), rfl, ⟨fun j hj e9 => (show j = 3 from by omega) ▸ t28, fun h9 => absurd ⟨by omega, by omega⟩ h9⟩, by rw [ht]; exact hP, va_K.moved hW.alike hK, hD⟩, hS.F ht⟩) hS.2.2 dX0_numberOf_71
  by_cases q29 : p1 = 4
  · refine g_top (v := 4) q29 ?_
    have fq29 : p1.toInt = 4 := b_eq rfl (by decide) q29
    refine lv_tableIn (x := 4) (off := 71) (tgt := 72) hx hb dX0_numberOf_1 (by decide) (by decide) (by decide) (by decide) ?_
    refine lv_aload_n hx hb dX0_numberOf_72 rfl (lv_at hl 0 rfl) ?_
    refine va_get (D := D) (ci := 0) (v := .ref (ad (40 + (5 * b + 4)))) (fs := (xfBook ad V b)) (C := RX0) (T := TX0) (N := 13) hx hb hg inX0 hown hK hP (38 + b) (xgBook hb2) rfl 4 (by decide) (hg _ w606) (fun _ h9 => h9) rfl dX0_numberOf_73 ?_
    refine lv_lload_n hx hb dX0_numberOf_76 rfl (lv_at hl 1 rfl) ?_
    have il30 : (5 * b + 4) < 10 := by (first | exact om_3aaf7229373d hb2 | omega)
    refine gA_int (gA_runV (As := [.long p0]) (rest := []) (ci := 6) (q0 := (40 + (5 * b + 4))) hx hb hml hown hg hP hD hK hS hA hnw hgk (x_find2 l D ks H.size ad kk V L Z p0 ((5 * b + 4)) hMV (show (5 * b + 4) < 10 from by (first | exact om_3aaf7229373d hb2 | omega))) w880 w881 w882 w168 w883 rfl (xgNames il30) hdV_yX6_find ⟨Nat.le_of_ble_eq_true rfl, Nat.le_of_ble_eq_true rfl⟩ rfl hl.1 rfl (Nat.le_of_ble_eq_true rfl) dX0_numberOf_77 ⟨Nat.le_of_ble_eq_true rfl, Nat.le_of_ble_eq_true rfl⟩) hP hD hK hS hA (fun z31 u32 H locs w33 hP hD hK hS => ?_)
    obtain ⟨rgz31, t34, t35⟩ := w33
    replace rgz31 : (-1) ≤ z31.toInt ∧ z31.toInt ≤ 23 := rgz31
    replace t34 : z31.toInt < (V 43 (5 * b + 4)).toInt := t34
    replace t35 : NF (fun i => L 44 (24 * (5 * b + 4) + i)) (V 43 (5 * b + 4)).toInt p0 z31.toInt := t35
    exact W.iret (v := z31) hx hb hr (fun t ht hW => ⟨⟨z31, (), rfl, ⟨fun j hj e9 => (show j = 4 from by omega) ▸ t35, fun h9 => absurd ⟨by omega, by omega⟩ h9⟩, by rw [ht]; exact hP, va_K.moved hW.alike hK, hD⟩, hS.F ht⟩) hS.2.2 dX0_numberOf_80
  refine lv_tableOut (x := p1) (tgt := 81) hx hb dX0_numberOf_1 (tab_out p1 4 (by decide) (fun k hk => match k, hk with | 0, _ => q1 | 1, _ => q8 | 2, _ => q15 | 3, _ => q22 | 4, _ => q29 | k + 5, hk => absurd hk (by omega))) (by decide) ?_
  have gd36 : p1.toInt ≠ 0 := fun h9 => q1 (Int32.toInt_inj.mp (h9.trans (by decide)))
  have gd37 : p1.toInt ≠ 1 := fun h9 => q8 (Int32.toInt_inj.mp (h9.trans (by decide)))
  have gd38 : p1.toInt ≠ 2 := fun h9 => q15 (Int32.toInt_inj.mp (h9.trans (by decide)))
  have gd39 : p1.toInt ≠ 3 := fun h9 => q22 (Int32.toInt_inj.mp (h9.trans (by decide)))
  have gd40 : p1.toInt ≠ 4 := fun h9 => q29 (Int32.toInt_inj.mp (h9.trans (by decide)))
  refine lv_iconst (v := (-1)) hx hb dX0_numberOf_81 (by decide) ?_
  exact W.iret (v := (-1)) hx hb hr (fun t ht hW => ⟨⟨(-1), (), rfl, ⟨fun j hj e9 => absurd e9 (by omega), fun _ => by decide⟩, by rw [ht]; exact hP, va_K.moved hW.alike hK, hD⟩, hS.F ht⟩) hS.2.2 dX0_numberOf_82
abbrev r_x_h_named4 : Room := { frames := 6, cells := 0, slots := 0, locals := 133 }
abbrev q_x_h_named4 (D : va_G) (ks : KS) (ad : Nat → Nat) (kk : Nat → ClassId) (V : Vf) (L : Lf) (Z : XZ) (p0 : Int32) (b : Nat) (A : Nat → Prop) : Array Value → State → Outcome → State → Prop := va_Qi (fun (r : Int32) (u : Vf × Lf) => rgd bX u.1 ∧ agr [(6, 5), (6, 6), (6, 7), (6, 8), (6, 9), (6, 10)] [12, 13, 14] V u.1 ∧ agL [6, 14] L u.2 ∧ (∃ (W9 : Vf) (M9 : Lf), CTx V L W9 M9 ∧ 0 ≤ (W9 6 7).toInt ∧ ∀ s9 : St, TBc V L b s9 → r.toInt = nmF (tkOf W9 M9) s9 p0.toInt)) (fun u t => gq D A (xw ad kk u.1 u.2 Z) (xty kk Z) t) A
set_option maxHeartbeats 4000000 in
set_option maxRecDepth 100000 in
theorem x_h_named4 (l : Launch) (D : va_G) (ks : KS) (sz : Nat) (ad : Nat → Nat) (kk : Nat → ClassId) (V : Vf) (L : Lf) (Z : XZ) (p0 : Int32) (b : Nat) (hMV : rgd bX V) (hb2 : b < 2) (shk : (V 0 6).toInt = (b : Int)) (bp1 : ∀ k : Nat, (k : Int) < (V 6 5).toInt → isTp (V 10 k))  : Met l yX11_named (Cond.code yX11_named cX11_named 6 (some .int) :: GW) r_x_h_named4 (va_Pc [.ref (ad 0), .int p0] (gp D ks (xw ad kk V L Z) (xty kk Z) sz)) (q_x_h_named4 D ks ad kk V L Z p0 b (va_A (xw ad kk V L Z) sz)) 0 0 (va_A (xw ad kk V L Z) sz) := by
  refine g_met (q_x_h_named4 D ks ad kk V L Z p0 b) (by decide) (Nat.le_of_ble_eq_true rfl) ?_
  intro p e s m below meth c A ls H locs hx hb hr hml hown hg hlocks hin hnw hgk hP hK hD hS hA hl
  replace hown : s.vm.findClass RX11 = some m.cls := hown
  replace hl : lv_has ls 6 [(0, .ref (ad 0)), (1, .int p0)] := hl
  replace hP : va_P D vwCl (xw ad kk V L Z) H := hP
  replace hD : va_D A (xw ad kk V L Z) := hD
  replace hK : va_K D vwCl (xty kk Z) s := hK
  have agV : agr [(6, 5), (6, 6), (6, 7), (6, 8), (6, 9), (6, 10)] [12, 13, 14] V V := agr.rf
  have alL : agL [6, 14] L L := agL.rf
  have rf_p0 := i_full p0
  have r1 : 0 ≤ ((V 0 6)).toInt ∧ ((V 0 6)).toInt ≤ 1 := hMV 0 6
  refine lv_aload_n hx hb dX11_named_0 rfl (lv_at hl 0 rfl) ?_
  refine va_get (D := D) (ci := 11) (v := .ref (ad 6)) (fs := (xfHouse ad V L Z)) (C := RX11) (T := TX11) (N := 10) hx hb hg inX11 hown hK hP 0 xgHouse rfl 0 (by decide) (hg _ w715) (fun _ h9 => h9) rfl dX11_named_1 ?_
  refine gA_void (gA_runV (As := []) (rest := []) (ci := 9) (q0 := 6) hx hb hml hown hg hP hD hK hS hA hnw hgk (x_begin2 l D ks H.size ad kk V L Z  hMV bp1) w1051 w767 w768 w157 w769 rfl xgTape hdV_yX9_begin ⟨Nat.le_of_ble_eq_true rfl, Nat.le_of_ble_eq_true rfl⟩ rfl hl.1 rfl (Nat.le_of_ble_eq_true rfl) dX11_named_4 ⟨Nat.le_of_ble_eq_true rfl, Nat.le_of_ble_eq_true rfl⟩) hP hD hK hS hA (fun u3 H locs w4 hP hD hK hS => ?_)
  obtain ⟨V7, L8⟩ := u3
  obtain ⟨hMV7, ajV7, axL8, t5, t6⟩ := w4
  have alL8 : agL [6, 14] L L8 := agL.tr alL axL8 (by decide)
  replace hP : va_P D vwCl (xw ad kk V7 L8 Z) H := hP
  replace hD : va_D A (xw ad kk V7 L8 Z) := hD
  replace hMV7 : rgd bX V7 := hMV7
  replace ajV7 : agr [(6, 6), (6, 7), (6, 8), (6, 9), (6, 10)] [12, 13, 14] V V7 := ajV7
  have agV7 : agr [(6, 5), (6, 6), (6, 7), (6, 8), (6, 9), (6, 10)] [12, 13, 14] V V7 := agV.tr ajV7 (by decide) (by decide)
  replace t5 : (V7 6 8).toInt ≤ (V7 6 7).toInt := t5
  replace t6 : CTE V L V7 L8 := t6
  have r9 : 0 ≤ ((V7 6 8)).toInt ∧ ((V7 6 8)).toInt ≤ 4000 := hMV7 6 8
  have r10 : 0 ≤ ((V7 6 7)).toInt ∧ ((V7 6 7)).toInt ≤ 4000 := hMV7 6 7
  have ct4 : CTE V L V7 L8 := t6
  have k04 : (V7 6 9).toInt = (tkOf V7 L8).1 0 := congrArg Int32.toInt ct4.2.2.2.2.2.1
  have v04 : L8 6 11 = (tkOf V7 L8).2.1 0 := ct4.2.2.2.2.2.2.2.1
  refine lv_aload_n hx hb dX11_named_7 rfl (lv_at hl 0 rfl) ?_
  refine va_get (D := D) (ci := 11) (v := .ref (ad 6)) (fs := (xfHouse ad V7 L8 Z)) (C := RX11) (T := TX11) (N := 10) hx hb hg inX11 hown hK hP 0 xgHouse rfl 0 (by decide) (hg _ w715) (fun _ h9 => h9) rfl dX11_named_8 ?_
  refine va_getN (D := D) (ci := 9) (v := .int (V7 6 9)) (fs := (xfTape ad V7 L8 Z)) (C := RX9) (T := TX9) (N := 12) hx hb hg inX9 hown hK hP 6 xgTape rfl 9 (by decide) (hnw.use 263 n263 rfl) (fun _ h9 => h9) rfl dX11_named_11 ?_
  refine lv_iconst (v := 3) hx hb dX11_named_14 (by decide) ?_
  refine lv_icmp_ne (tgt := 22) hx hb dX11_named_15 (by decide) (fun c11 => ?_) (fun c11 => ?_)
  · skip
    have f12 : ((V7 6 9)).toInt ≠ 3 := b_neq rfl (by decide) c11
    refine lv_iconst (v := 0) hx hb dX11_named_22 (by decide) ?_
    refine lv_istore_n (lv' := [(2, .int 0), (0, .ref (ad 0)), (1, .int p0)]) hx hb dX11_named_23 rfl hl (by decide) rfl (fun ls hl => ?_)
    refine lv_aload_n hx hb dX11_named_24 rfl (lv_at hl 1 rfl) ?_
    refine va_get (D := D) (ci := 11) (v := .ref (ad 6)) (fs := (xfHouse ad V7 L8 Z)) (C := RX11) (T := TX11) (N := 10) hx hb hg inX11 hown hK hP 0 xgHouse rfl 0 (by decide) (hg _ w715) (fun _ h9 => h9) rfl dX11_named_25 ?_
    refine va_getN (D := D) (ci := 9) (v := .long (L8 6 11)) (fs := (xfTape ad V7 L8 Z)) (C := RX9) (T := TX9) (N := 12) hx hb hg inX9 hown hK hP 6 xgTape rfl 11 (by decide) (hnw.use 267 n267 rfl) (fun _ h9 => h9) rfl dX11_named_28 ?_
    refine lv_lstore_n (lv' := [(3, .long (L8 6 11)), (2, .int 0), (0, .ref (ad 0)), (1, .int p0)]) hx hb dX11_named_31 rfl hl (by decide) rfl (fun ls hl => ?_)
    refine lv_aload_n hx hb dX11_named_32 rfl (lv_at hl 2 rfl) ?_
    refine va_get (D := D) (ci := 11) (v := .ref (ad 6)) (fs := (xfHouse ad V7 L8 Z)) (C := RX11) (T := TX11) (N := 10) hx hb hg inX11 hown hK hP 0 xgHouse rfl 0 (by decide) (hg _ w715) (fun _ h9 => h9) rfl dX11_named_33 ?_
    refine gA_void (gA_runV (As := []) (rest := []) (ci := 9) (q0 := 6) hx hb hml hown hg hP hD hK hS hA hnw hgk (x_next2 l D ks H.size ad kk V7 L8 Z  hMV7 (show (V7 6 8).toInt ≤ (V7 6 7).toInt from by first | exact om_f4906d00fa52 t5 | first | omega | ((try (have i_bp1 := Imp.go bp1 (by omega))); omega))) w1052 w852 w853 w157 w854 rfl xgTape hdV_yX9_next ⟨Nat.le_of_ble_eq_true rfl, Nat.le_of_ble_eq_true rfl⟩ rfl hl.1 rfl (Nat.le_of_ble_eq_true rfl) dX11_named_36 ⟨Nat.le_of_ble_eq_true rfl, Nat.le_of_ble_eq_true rfl⟩) hP hD hK hS hA (fun u14 H locs w15 hP hD hK hS => ?_)
    obtain ⟨V18, L19⟩ := u14
    obtain ⟨hMV18, ajV18, axL19, t16, t17⟩ := w15
    have alL19 : agL [6, 14] L L19 := agL.tr alL8 axL19 (by decide)
    replace hP : va_P D vwCl (xw ad kk V18 L19 Z) H := hP
    replace hD : va_D A (xw ad kk V18 L19 Z) := hD
    replace hMV18 : rgd bX V18 := hMV18
    replace ajV18 : agr [(6, 8), (6, 9), (6, 10)] [] V7 V18 := ajV18
    have agV18 : agr [(6, 5), (6, 6), (6, 7), (6, 8), (6, 9), (6, 10)] [12, 13, 14] V V18 := agV7.tr ajV18 (by decide) (by decide)
    replace t16 : (V18 6 8).toInt ≤ (V18 6 7).toInt := t16
    replace t17 : CUR V18 L19 (Int32.toNatClampNeg (V7 6 8)) := t17
    have r20 : 0 ≤ ((V18 6 8)).toInt ∧ ((V18 6 8)).toInt ≤ 4000 := hMV18 6 8
    have pq21 : (V18 6 7).toInt = ((V7 6 7)).toInt := congrArg Int32.toInt (ajV18 6 7 rfl)
    have k14 : (tkOf V7 L8).1 0 = 3 → (V18 6 9).toInt = (tkOf V7 L8).1 1 := fun h9 => CTE.k1 ct4 t17 (by rw [(funext (fun q => ajV18 12 q rfl) : V18 12 = V7 12)] : V18 12 = V7 12) h9
    refine lv_aload_n hx hb dX11_named_39 rfl (lv_at hl 2 rfl) ?_
    refine va_get (D := D) (ci := 11) (v := .ref (ad 6)) (fs := (xfHouse ad V18 L19 Z)) (C := RX11) (T := TX11) (N := 10) hx hb hg inX11 hown hK hP 0 xgHouse rfl 0 (by decide) (hg _ w715) (fun _ h9 => h9) rfl dX11_named_40 ?_
    refine va_getN (D := D) (ci := 9) (v := .int (V18 6 9)) (fs := (xfTape ad V18 L19 Z)) (C := RX9) (T := TX9) (N := 12) hx hb hg inX9 hown hK hP 6 xgTape rfl 9 (by decide) (hnw.use 263 n263 rfl) (fun _ h9 => h9) rfl dX11_named_43 ?_
    refine lv_if_ne (tgt := 53) hx hb dX11_named_46 (by decide) (fun c22 => ?_) (fun c22 => ?_)
    · skip
      have f23 : ((V18 6 9)).toInt ≠ 0 := b_neq rfl (by decide) c22
      refine lv_iconst (v := 0) hx hb dX11_named_53 (by decide) ?_
      refine lv_istore (lv' := [(5, .int 0), (3, .long (L8 6 11)), (2, .int 0), (0, .ref (ad 0)), (1, .int p0)]) hx hb dX11_named_54 hl (by decide) rfl (fun ls hl => ?_)
      refine lv_aload_n hx hb dX11_named_56 rfl (lv_at hl 3 rfl) ?_
      refine va_get (D := D) (ci := 11) (v := .ref (ad 6)) (fs := (xfHouse ad V18 L19 Z)) (C := RX11) (T := TX11) (N := 10) hx hb hg inX11 hown hK hP 0 xgHouse rfl 0 (by decide) (hg _ w715) (fun _ h9 => h9) rfl dX11_named_57 ?_
      refine gA_void (gA_runV (As := []) (rest := []) (ci := 9) (q0 := 6) hx hb hml hown hg hP hD hK hS hA hnw hgk (x_empty l D ks H.size ad kk V18 L19 Z  hMV18 ) w1019 w1020 w1021 w157 w1022 rfl xgTape hdV_yX9_empty ⟨Nat.le_of_ble_eq_true rfl, Nat.le_of_ble_eq_true rfl⟩ rfl hl.1 rfl (Nat.le_of_ble_eq_true rfl) dX11_named_60 ⟨Nat.le_of_ble_eq_true rfl, Nat.le_of_ble_eq_true rfl⟩) hP hD hK hS hA (fun u25 H locs w26 hP hD hK hS => ?_)
      obtain ⟨V28, L29⟩ := u25
      obtain ⟨hMV28, ajV28, axL29, t27⟩ := w26
      have axL29 : L19 = L29 := Eq.symm axL29
      subst axL29
      replace hP : va_P D vwCl (xw ad kk V28 L19 Z) H := hP
      replace hD : va_D A (xw ad kk V28 L19 Z) := hD
      replace hMV28 : rgd bX V28 := hMV28
      replace ajV28 : agr [(6, 5)] [] V18 V28 := ajV28
      have agV28 : agr [(6, 5), (6, 6), (6, 7), (6, 8), (6, 9), (6, 10)] [12, 13, 14] V V28 := agV18.tr ajV28 (by decide) (by decide)
      replace t27 : (V28 6 5).toInt = 0 := t27
      have r30 : 0 ≤ ((V28 6 5)).toInt ∧ ((V28 6 5)).toInt ≤ 4000 := hMV28 6 5
      refine lv_iload_n hx hb dX11_named_63 rfl (lv_at hl 2 rfl) ?_
      refine lv_if_eq (tgt := 84) hx hb dX11_named_64 (by decide) (fun _ => ?_) (fun q => absurd (by decide) q)
      refine lv_iconst (v := (-1)) hx hb dX11_named_84 (by decide) ?_
      have r31 : Int32.toInt (-1) = (-1) := by decide
      exact W.iret (v := (-1)) hx hb hr (fun t ht hW => ⟨⟨(-1), (V28, L19), rfl, ⟨hMV28, agV28, alL19, ⟨V7, L8, CTE.x ct4 rfl rfl rfl, (hMV7 6 7).1, fun s9 t9 => (by rw [nmF_n (fun q9 => by have q1 := q9.1; have q2 := k14 q9.1; have q3 := q9.2.1; omega)]; decide)⟩⟩, by rw [ht]; exact hP, va_K.moved hW.alike hK, hD⟩, hS.F ht⟩) hS.2.2 dX11_named_85
    · skip
      have f32 : ((V18 6 9)).toInt = 0 := b_eq rfl (by decide) c22
      refine lv_iconst (v := 1) hx hb dX11_named_49 (by decide) ?_
      refine lv_goto (tgt := 54) hx hb dX11_named_50 (by decide) ?_
      refine lv_istore (lv' := [(5, .int 1), (3, .long (L8 6 11)), (2, .int 0), (0, .ref (ad 0)), (1, .int p0)]) hx hb dX11_named_54 hl (by decide) rfl (fun ls hl => ?_)
      refine lv_aload_n hx hb dX11_named_56 rfl (lv_at hl 3 rfl) ?_
      refine va_get (D := D) (ci := 11) (v := .ref (ad 6)) (fs := (xfHouse ad V18 L19 Z)) (C := RX11) (T := TX11) (N := 10) hx hb hg inX11 hown hK hP 0 xgHouse rfl 0 (by decide) (hg _ w715) (fun _ h9 => h9) rfl dX11_named_57 ?_
      refine gA_void (gA_runV (As := []) (rest := []) (ci := 9) (q0 := 6) hx hb hml hown hg hP hD hK hS hA hnw hgk (x_empty l D ks H.size ad kk V18 L19 Z  hMV18 ) w1019 w1020 w1021 w157 w1022 rfl xgTape hdV_yX9_empty ⟨Nat.le_of_ble_eq_true rfl, Nat.le_of_ble_eq_true rfl⟩ rfl hl.1 rfl (Nat.le_of_ble_eq_true rfl) dX11_named_60 ⟨Nat.le_of_ble_eq_true rfl, Nat.le_of_ble_eq_true rfl⟩) hP hD hK hS hA (fun u34 H locs w35 hP hD hK hS => ?_)
      obtain ⟨V37, L38⟩ := u34
      obtain ⟨hMV37, ajV37, axL38, t36⟩ := w35
      have axL38 : L19 = L38 := Eq.symm axL38
      subst axL38
      replace hP : va_P D vwCl (xw ad kk V37 L19 Z) H := hP
      replace hD : va_D A (xw ad kk V37 L19 Z) := hD
      replace hMV37 : rgd bX V37 := hMV37
      replace ajV37 : agr [(6, 5)] [] V18 V37 := ajV37
      have agV37 : agr [(6, 5), (6, 6), (6, 7), (6, 8), (6, 9), (6, 10)] [12, 13, 14] V V37 := agV18.tr ajV37 (by decide) (by decide)
      replace t36 : (V37 6 5).toInt = 0 := t36
      have r39 : 0 ≤ ((V37 6 5)).toInt ∧ ((V37 6 5)).toInt ≤ 4000 := hMV37 6 5
      refine lv_iload_n hx hb dX11_named_63 rfl (lv_at hl 2 rfl) ?_
      refine lv_if_eq (tgt := 84) hx hb dX11_named_64 (by decide) (fun _ => ?_) (fun q => absurd (by decide) q)
      refine lv_iconst (v := (-1)) hx hb dX11_named_84 (by decide) ?_
      have r40 : Int32.toInt (-1) = (-1) := by decide
      exact W.iret (v := (-1)) hx hb hr (fun t ht hW => ⟨⟨(-1), (V37, L19), rfl, ⟨hMV37, agV37, alL19, ⟨V7, L8, CTE.x ct4 rfl rfl rfl, (hMV7 6 7).1, fun s9 t9 => (by rw [nmF_n (fun q9 => by have q1 := q9.1; have q2 := k14 q9.1; have q3 := q9.2.1; omega)]; decide)⟩⟩, by rw [ht]; exact hP, va_K.moved hW.alike hK, hD⟩, hS.F ht⟩) hS.2.2 dX11_named_85
  · skip
    have f41 : ((V7 6 9)).toInt = 3 := b_eq rfl (by decide) c11
    refine lv_iconst (v := 1) hx hb dX11_named_18 (by decide) ?_
    refine lv_goto (tgt := 23) hx hb dX11_named_19 (by decide) ?_
    refine lv_istore_n (lv' := [(2, .int 1), (0, .ref (ad 0)), (1, .int p0)]) hx hb dX11_named_23 rfl hl (by decide) rfl (fun ls hl => ?_)
    refine lv_aload_n hx hb dX11_named_24 rfl (lv_at hl 1 rfl) ?_
    refine va_get (D := D) (ci := 11) (v := .ref (ad 6)) (fs := (xfHouse ad V7 L8 Z)) (C := RX11) (T := TX11) (N := 10) hx hb hg inX11 hown hK hP 0 xgHouse rfl 0 (by decide) (hg _ w715) (fun _ h9 => h9) rfl dX11_named_25 ?_
    refine va_getN (D := D) (ci := 9) (v := .long (L8 6 11)) (fs := (xfTape ad V7 L8 Z)) (C := RX9) (T := TX9) (N := 12) hx hb hg inX9 hown hK hP 6 xgTape rfl 11 (by decide) (hnw.use 267 n267 rfl) (fun _ h9 => h9) rfl dX11_named_28 ?_
    refine lv_lstore_n (lv' := [(3, .long (L8 6 11)), (2, .int 1), (0, .ref (ad 0)), (1, .int p0)]) hx hb dX11_named_31 rfl hl (by decide) rfl (fun ls hl => ?_)
    refine lv_aload_n hx hb dX11_named_32 rfl (lv_at hl 2 rfl) ?_
    refine va_get (D := D) (ci := 11) (v := .ref (ad 6)) (fs := (xfHouse ad V7 L8 Z)) (C := RX11) (T := TX11) (N := 10) hx hb hg inX11 hown hK hP 0 xgHouse rfl 0 (by decide) (hg _ w715) (fun _ h9 => h9) rfl dX11_named_33 ?_
    refine gA_void (gA_runV (As := []) (rest := []) (ci := 9) (q0 := 6) hx hb hml hown hg hP hD hK hS hA hnw hgk (x_next2 l D ks H.size ad kk V7 L8 Z  hMV7 (show (V7 6 8).toInt ≤ (V7 6 7).toInt from by first | exact om_f4906d00fa52 t5 | first | omega | ((try (have i_bp1 := Imp.go bp1 (by omega))); omega))) w1052 w852 w853 w157 w854 rfl xgTape hdV_yX9_next ⟨Nat.le_of_ble_eq_true rfl, Nat.le_of_ble_eq_true rfl⟩ rfl hl.1 rfl (Nat.le_of_ble_eq_true rfl) dX11_named_36 ⟨Nat.le_of_ble_eq_true rfl, Nat.le_of_ble_eq_true rfl⟩) hP hD hK hS hA (fun u43 H locs w44 hP hD hK hS => ?_)
    obtain ⟨V47, L48⟩ := u43
    obtain ⟨hMV47, ajV47, axL48, t45, t46⟩ := w44
    have alL48 : agL [6, 14] L L48 := agL.tr alL8 axL48 (by decide)
    replace hP : va_P D vwCl (xw ad kk V47 L48 Z) H := hP
    replace hD : va_D A (xw ad kk V47 L48 Z) := hD
    replace hMV47 : rgd bX V47 := hMV47
    replace ajV47 : agr [(6, 8), (6, 9), (6, 10)] [] V7 V47 := ajV47
    have agV47 : agr [(6, 5), (6, 6), (6, 7), (6, 8), (6, 9), (6, 10)] [12, 13, 14] V V47 := agV7.tr ajV47 (by decide) (by decide)
    replace t45 : (V47 6 8).toInt ≤ (V47 6 7).toInt := t45
    replace t46 : CUR V47 L48 (Int32.toNatClampNeg (V7 6 8)) := t46
    have r49 : 0 ≤ ((V47 6 8)).toInt ∧ ((V47 6 8)).toInt ≤ 4000 := hMV47 6 8
    have pq50 : (V47 6 7).toInt = ((V7 6 7)).toInt := congrArg Int32.toInt (ajV47 6 7 rfl)
    have k14 : (tkOf V7 L8).1 0 = 3 → (V47 6 9).toInt = (tkOf V7 L8).1 1 := fun h9 => CTE.k1 ct4 t46 (by rw [(funext (fun q => ajV47 12 q rfl) : V47 12 = V7 12)] : V47 12 = V7 12) h9
    refine lv_aload_n hx hb dX11_named_39 rfl (lv_at hl 2 rfl) ?_
    refine va_get (D := D) (ci := 11) (v := .ref (ad 6)) (fs := (xfHouse ad V47 L48 Z)) (C := RX11) (T := TX11) (N := 10) hx hb hg inX11 hown hK hP 0 xgHouse rfl 0 (by decide) (hg _ w715) (fun _ h9 => h9) rfl dX11_named_40 ?_
    refine va_getN (D := D) (ci := 9) (v := .int (V47 6 9)) (fs := (xfTape ad V47 L48 Z)) (C := RX9) (T := TX9) (N := 12) hx hb hg inX9 hown hK hP 6 xgTape rfl 9 (by decide) (hnw.use 263 n263 rfl) (fun _ h9 => h9) rfl dX11_named_43 ?_
    refine lv_if_ne (tgt := 53) hx hb dX11_named_46 (by decide) (fun c51 => ?_) (fun c51 => ?_)
    · skip
      have f52 : ((V47 6 9)).toInt ≠ 0 := b_neq rfl (by decide) c51
      refine lv_iconst (v := 0) hx hb dX11_named_53 (by decide) ?_
      refine lv_istore (lv' := [(5, .int 0), (3, .long (L8 6 11)), (2, .int 1), (0, .ref (ad 0)), (1, .int p0)]) hx hb dX11_named_54 hl (by decide) rfl (fun ls hl => ?_)
      refine lv_aload_n hx hb dX11_named_56 rfl (lv_at hl 3 rfl) ?_
      refine va_get (D := D) (ci := 11) (v := .ref (ad 6)) (fs := (xfHouse ad V47 L48 Z)) (C := RX11) (T := TX11) (N := 10) hx hb hg inX11 hown hK hP 0 xgHouse rfl 0 (by decide) (hg _ w715) (fun _ h9 => h9) rfl dX11_named_57 ?_
      refine gA_void (gA_runV (As := []) (rest := []) (ci := 9) (q0 := 6) hx hb hml hown hg hP hD hK hS hA hnw hgk (x_empty l D ks H.size ad kk V47 L48 Z  hMV47 ) w1019 w1020 w1021 w157 w1022 rfl xgTape hdV_yX9_empty ⟨Nat.le_of_ble_eq_true rfl, Nat.le_of_ble_eq_true rfl⟩ rfl hl.1 rfl (Nat.le_of_ble_eq_true rfl) dX11_named_60 ⟨Nat.le_of_ble_eq_true rfl, Nat.le_of_ble_eq_true rfl⟩) hP hD hK hS hA (fun u54 H locs w55 hP hD hK hS => ?_)
      obtain ⟨V57, L58⟩ := u54
      obtain ⟨hMV57, ajV57, axL58, t56⟩ := w55
      have axL58 : L48 = L58 := Eq.symm axL58
      subst axL58
      replace hP : va_P D vwCl (xw ad kk V57 L48 Z) H := hP
      replace hD : va_D A (xw ad kk V57 L48 Z) := hD
      replace hMV57 : rgd bX V57 := hMV57
      replace ajV57 : agr [(6, 5)] [] V47 V57 := ajV57
      have agV57 : agr [(6, 5), (6, 6), (6, 7), (6, 8), (6, 9), (6, 10)] [12, 13, 14] V V57 := agV47.tr ajV57 (by decide) (by decide)
      replace t56 : (V57 6 5).toInt = 0 := t56
      have r59 : 0 ≤ ((V57 6 5)).toInt ∧ ((V57 6 5)).toInt ≤ 4000 := hMV57 6 5
      refine lv_iload_n hx hb dX11_named_63 rfl (lv_at hl 2 rfl) ?_
      refine lv_if_eq (tgt := 84) hx hb dX11_named_64 (by decide) (fun q => absurd q (by decide)) (fun _ => ?_)
      refine lv_iload hx hb dX11_named_67 (lv_at hl 0 rfl) ?_
      refine lv_if_eq (tgt := 84) hx hb dX11_named_69 (by decide) (fun _ => ?_) (fun q => absurd (by decide) q)
      refine lv_iconst (v := (-1)) hx hb dX11_named_84 (by decide) ?_
      have r60 : Int32.toInt (-1) = (-1) := by decide
      exact W.iret (v := (-1)) hx hb hr (fun t ht hW => ⟨⟨(-1), (V57, L48), rfl, ⟨hMV57, agV57, alL48, ⟨V7, L8, CTE.x ct4 rfl rfl rfl, (hMV7 6 7).1, fun s9 t9 => (by rw [nmF_n (fun q9 => by have q1 := q9.1; have q2 := k14 q9.1; have q3 := q9.2.1; omega)]; decide)⟩⟩, by rw [ht]; exact hP, va_K.moved hW.alike hK, hD⟩, hS.F ht⟩) hS.2.2 dX11_named_85
    · skip
      have f61 : ((V47 6 9)).toInt = 0 := b_eq rfl (by decide) c51
      refine lv_iconst (v := 1) hx hb dX11_named_49 (by decide) ?_
      refine lv_goto (tgt := 54) hx hb dX11_named_50 (by decide) ?_
      refine lv_istore (lv' := [(5, .int 1), (3, .long (L8 6 11)), (2, .int 1), (0, .ref (ad 0)), (1, .int p0)]) hx hb dX11_named_54 hl (by decide) rfl (fun ls hl => ?_)
      refine lv_aload_n hx hb dX11_named_56 rfl (lv_at hl 3 rfl) ?_
      refine va_get (D := D) (ci := 11) (v := .ref (ad 6)) (fs := (xfHouse ad V47 L48 Z)) (C := RX11) (T := TX11) (N := 10) hx hb hg inX11 hown hK hP 0 xgHouse rfl 0 (by decide) (hg _ w715) (fun _ h9 => h9) rfl dX11_named_57 ?_
      refine gA_void (gA_runV (As := []) (rest := []) (ci := 9) (q0 := 6) hx hb hml hown hg hP hD hK hS hA hnw hgk (x_empty l D ks H.size ad kk V47 L48 Z  hMV47 ) w1019 w1020 w1021 w157 w1022 rfl xgTape hdV_yX9_empty ⟨Nat.le_of_ble_eq_true rfl, Nat.le_of_ble_eq_true rfl⟩ rfl hl.1 rfl (Nat.le_of_ble_eq_true rfl) dX11_named_60 ⟨Nat.le_of_ble_eq_true rfl, Nat.le_of_ble_eq_true rfl⟩) hP hD hK hS hA (fun u63 H locs w64 hP hD hK hS => ?_)
      obtain ⟨V66, L67⟩ := u63
      obtain ⟨hMV66, ajV66, axL67, t65⟩ := w64
      have axL67 : L48 = L67 := Eq.symm axL67
      subst axL67
      replace hP : va_P D vwCl (xw ad kk V66 L48 Z) H := hP
      replace hD : va_D A (xw ad kk V66 L48 Z) := hD
      replace hMV66 : rgd bX V66 := hMV66
      replace ajV66 : agr [(6, 5)] [] V47 V66 := ajV66
      have agV66 : agr [(6, 5), (6, 6), (6, 7), (6, 8), (6, 9), (6, 10)] [12, 13, 14] V V66 := agV47.tr ajV66 (by decide) (by decide)
      replace t65 : (V66 6 5).toInt = 0 := t65
      have r68 : 0 ≤ ((V66 6 5)).toInt ∧ ((V66 6 5)).toInt ≤ 4000 := hMV66 6 5
      refine lv_iload_n hx hb dX11_named_63 rfl (lv_at hl 2 rfl) ?_
      refine lv_if_eq (tgt := 84) hx hb dX11_named_64 (by decide) (fun q => absurd q (by decide)) (fun _ => ?_)
      refine lv_iload hx hb dX11_named_67 (lv_at hl 0 rfl) ?_
      refine lv_if_eq (tgt := 84) hx hb dX11_named_69 (by decide) (fun q => absurd q (by decide)) (fun _ => ?_)
      refine lv_aload_n hx hb dX11_named_72 rfl (lv_at hl 3 rfl) ?_
      refine va_get (D := D) (ci := 11) (v := .ref (ad (38 + Int32.toNatClampNeg (V66 0 6)))) (fs := (xfHouse ad V66 L48 Z)) (C := RX11) (T := TX11) (N := 10) hx hb hg inX11 hown hK hP 0 xgHouse rfl 6 (by decide) (hg _ w721) (fun _ h9 => h9) rfl dX11_named_73 ?_
      have pq69 : (V66 0 6).toInt = ((V 0 6)).toInt := congrArg Int32.toInt ((ajV66 0 6 rfl).trans ((ajV47 0 6 rfl).trans (ajV7 0 6 rfl)))
      refine g_topv (v := .ref (ad (38 + b))) (rfP (by first | omega | ((try (have i_bp1 := Imp.go bp1 (by omega))); omega))) ?_
      refine lv_lload_n hx hb dX11_named_76 rfl (lv_at hl 1 rfl) ?_
      refine lv_iload_n hx hb dX11_named_77 rfl (lv_at hl 4 rfl) ?_
      refine gA_int (gA_runV (As := [.long (L8 6 11), .int p0]) (rest := []) (ci := 0) (q0 := (38 + b)) hx hb hml hown hg hP hD hK hS hA hnw hgk (x_numberOf4 l D ks H.size ad kk V66 L48 Z (L8 6 11) p0 (b) hMV66 (show b < 2 from by first | exact om_f940a4667dd6 hb2 | first | omega | ((try (have i_bp1 := Imp.go bp1 (by omega))); omega))) w1053 w1054 w1055 w167 w1056 rfl (xgBook hb2) hdV_yX0_numberOf ⟨Nat.le_of_ble_eq_true rfl, Nat.le_of_ble_eq_true rfl⟩ rfl hl.1 rfl (Nat.le_of_ble_eq_true rfl) dX11_named_78 ⟨Nat.le_of_ble_eq_true rfl, Nat.le_of_ble_eq_true rfl⟩) hP hD hK hS hA (fun z70 u71 H locs w72 hP hD hK hS => ?_)
      have t73 := w72
      replace t73 : (∀ j : Nat, j < 5 → p0.toInt = (j : Int) → NF (fun i => L48 44 (24 * (5 * b + j) + i)) (V66 43 (5 * b + j)).toInt (L8 6 11) z70.toInt) ∧ (¬ (0 ≤ p0.toInt ∧ p0.toInt < 5) → z70.toInt = -1) := t73
      refine lv_goto (tgt := 85) hx hb dX11_named_81 (by decide) ?_
      have no9 := t73
      have kk3 : (tkOf V7 L8).1 0 = 3 := by omega
      have kk1 : (tkOf V7 L8).1 1 = 0 := by have h9 := k14 kk3; omega
      exact W.iret (v := z70) hx hb hr (fun t ht hW => ⟨⟨z70, (V66, L48), rfl, ⟨hMV66, agV66, alL48, ⟨V7, L8, CTE.x ct4 rfl rfl rfl, (hMV7 6 7).1, fun s9 t9 => (by by_cases c9 : 0 ≤ p0.toInt ∧ p0.toInt < 5; (have ej : p0.toInt = ((p0.toInt.toNat : Nat) : Int) := (by omega); rw [ej]; exact NF.nm (no9.1 p0.toInt.toNat (by omega) ej) (TBc.mv t9 (by rw [(funext (fun q => ajV66 43 q rfl) : V66 43 = V47 43), (funext (fun q => ajV47 43 q rfl) : V47 43 = V7 43), (funext (fun q => ajV7 43 q rfl) : V7 43 = V 43)] : V66 43 = V 43) (funext fun q9 => alL48 44 q9 rfl)) (by omega) kk3 kk1 v04.symm); (rw [nmF_n (fun q9 => c9 q9.2.2)]; exact no9.2 c9))⟩⟩, by rw [ht]; exact hP, va_K.moved hW.alike hK, hD⟩, hS.F ht⟩) hS.2.2 dX11_named_85
abbrev r_s_named4 : Room := { frames := 3, cells := 0, slots := 0, locals := 66 }
abbrev q_s_named4 (D : va_G) (ks : KS) (ad : Nat → Nat) (kk : Nat → ClassId) (V : Vf) (L : Lf) (p0 : Int32) (bq : Nat) (gn : Nat) (gT : Tk) (gs : St) (A : Nat → Prop) : Array Value → State → Outcome → State → Prop := va_Qi (fun (r : Int32) (u : Vf × Lf) => rgd bM u.1 ∧ agr [(0, 0), (0, 2), (0, 3), (0, 7), (0, 8)] [4, 5, 6] V u.1 ∧ agL [4, 5, 6] L u.2 ∧ (r.toInt = nmF gT gs p0.toInt)) (fun u t => gq D A (mw ad kk ks.1 u.1 u.2) (mty kk) t) A
set_option maxHeartbeats 4000000 in
set_option maxRecDepth 100000 in
theorem s_named4 (l : Launch) (D : va_G) (ks : KS) (sz : Nat) (ad : Nat → Nat) (kk : Nat → ClassId) (V : Vf) (L : Lf) (p0 : Int32) (bq : Nat) (gn : Nat) (gT : Tk) (gs : St) (hMV : rgd bM V) (zq1 : (bq : Int) = (V 0 11).toInt) (hT : ∀ (W9 : Vf) (M9 : Lf), RTE V W9 M9 → (∀ k : Nat, k < 28 → M9 10 k = L 10 k) → TkM W9 M9 gT gn) (tb4 : TBm V L bq gs (gs.2.1 2)) (nk : NKs gs)  : Met l yX12_named_ (Cond.code yX12_named_ cX12_named_ 2 (some .int) :: GW) r_s_named4 (va_Pc [.ref (ad 0), .int p0] (gp D ks (mw ad kk ks.1 V L) (mty kk) sz)) (q_s_named4 D ks ad kk V L p0 bq gn gT gs (va_A (mw ad kk ks.1 V L) sz)) 0 0 (va_A (mw ad kk ks.1 V L) sz) := by
  refine g_met (q_s_named4 D ks ad kk V L p0 bq gn gT gs) (by decide) (Nat.le_of_ble_eq_true rfl) ?_
  intro p e s m below meth c A ls H locs hx hb hr hml hown hg hlocks hin hnw hgk hP hK hD hS hA hl
  replace hown : s.vm.findClass RX12 = some m.cls := hown
  replace hl : lv_has ls 2 [(0, .ref (ad 0)), (1, .int p0)] := hl
  replace hP : va_P D vwCl (mw ad kk ks.1 V L) H := hP
  replace hD : va_D A (mw ad kk ks.1 V L) := hD
  replace hK : va_K D vwCl (mty kk) s := hK
  have agV : agr [(0, 0), (0, 2), (0, 3), (0, 7), (0, 8)] [4, 5, 6] V V := agr.rf
  have alL : agL [4, 5, 6] L L := agL.rf
  have rf_p0 := i_full p0
  have r1 : 0 ≤ ((V 0 11)).toInt ∧ ((V 0 11)).toInt ≤ 1 := hMV 0 11
  refine lv_aload_n hx hb dX12_named__0 rfl (lv_at hl 0 rfl) ?_
  refine lv_iconst (v := 0) hx hb dX12_named__1 (by decide) ?_
  refine va_put (D := D) (ci := 12) (v := .int 0) (ty := tyX12 0) (C := RX12) (T := TX12) (N := 100) hx hb hg inX12 tyX12 tyX12_ok nmX12 hown hK hP hD hS 0 rfl rfl 0 (by decide) (hg _ w1706) (fun _ h9 => h9) rfl (tyX12_ok 0 (by decide)) rfl rfl (Nat.le_of_ble_eq_true rfl) dX12_named__2 (fun H locs hP hD hS => ?_)
  obtain ⟨V2, hV2⟩ : ∃ z, z = up2 V 0 0 0 := ⟨_, rfl⟩
  have hP : va_P D vwCl (mw ad kk ks.1 V2 L) H := by rw [hV2]; exact hP
  have hD : va_D A (mw ad kk ks.1 V2 L) := by rw [hV2]; exact hD
  have hMV2 : rgd bM V2 := hMV.put hV2 (i_full _)
  have agV2 : agr [(0, 0), (0, 2), (0, 3), (0, 7), (0, 8)] [4, 5, 6] V V2 := agV.up hV2 rfl
  refine lv_aload_n hx hb dX12_named__5 rfl (lv_at hl 0 rfl) ?_
  refine gA_void (gA_runV (As := []) (rest := []) (ci := 12) (q0 := 0) hx hb hml hown hg hP hD hK hS hA hnw hgk (s_cutAll2 l D ks H.size ad kk V2 L  hMV2 ) w2011 w2013 w82 w172 w2014 rfl rfl hdV_yX12_cutAll ⟨Nat.le_of_ble_eq_true rfl, Nat.le_of_ble_eq_true rfl⟩ rfl hl.1 rfl (Nat.le_of_ble_eq_true rfl) dX12_named__6 ⟨Nat.le_of_ble_eq_true rfl, Nat.le_of_ble_eq_true rfl⟩) hP hD hK hS hA (fun u4 H locs w5 hP hD hK hS => ?_)
  obtain ⟨V10, L11⟩ := u4
  obtain ⟨hMV10, ajV10, axL11, t6, t7, t8, t9⟩ := w5
  have alL11 : agL [4, 5, 6] L L11 := agL.tr alL axL11 (by decide)
  replace hP : va_P D vwCl (mw ad kk ks.1 V10 L11) H := hP
  replace hD : va_D A (mw ad kk ks.1 V10 L11) := hD
  replace hMV10 : rgd bM V10 := hMV10
  replace ajV10 : agr [(0, 2), (0, 3), (0, 7), (0, 8)] [4, 5, 6] V2 V10 := ajV10
  have agV10 : agr [(0, 0), (0, 2), (0, 3), (0, 7), (0, 8)] [4, 5, 6] V V10 := agV2.tr ajV10 (by decide) (by decide)
  replace t6 : (V10 0 8).toInt = 0 := t6
  replace t7 : (V10 0 7).toInt = 0 := t7
  replace t8 : (V10 0 2).toInt = 0 := t8
  replace t9 : RTE V2 V10 L11 := t9
  have r12 : 0 ≤ ((V10 0 8)).toInt ∧ ((V10 0 8)).toInt ≤ 70000 := hMV10 0 8
  have r13 : 0 ≤ ((V10 0 2)).toInt ∧ ((V10 0 2)).toInt ≤ 4000 := hMV10 0 2
  have tk0 : TkM V10 L11 gT gn := hT _ _ (RTE.mv t9 (by rw [(up2_fo hV2 (by decide) : V2 1 = V 1)] : V2 1 = V 1) (show V2 0 2 = V 0 2 from (up2_k hV2 (by decide)))) (fun k hk => alL11 10 k rfl)
  refine lv_aload_n hx hb dX12_named__9 rfl (lv_at hl 0 rfl) ?_
  refine va_get (D := D) (ci := 12) (v := .ref (ad 4)) (C := RX12) (T := TX12) (N := 100) hx hb hg inX12 hown hK hP 0 rfl rfl 4 (by decide) (hg _ w1710) (fun _ h9 => h9) rfl dX12_named__10 ?_
  refine lv_iconst (v := 0) hx hb dX12_named__13 (by decide) ?_
  refine va_iald (D := D) (i := 0) hx hb hK hP 2 1 rfl rfl (i_in (a := 0) (by decide) (by decide)) dX12_named__14 ?_
  refine g_top (v := V10 4 0) (congrArg (V10 4) (by decide)) ?_
  refine lv_iconst (v := 1) hx hb dX12_named__15 (by decide) ?_
  refine lv_icmp_ne (tgt := 28) hx hb dX12_named__16 (by decide) (fun c14 => ?_) (fun c14 => ?_)
  · skip
    have f15 : ((V10 4 0)).toInt ≠ 1 := b_neq rfl (by decide) c14
    refine lv_iconst (v := (-1)) hx hb dX12_named__28 (by decide) ?_
    have r16 : Int32.toInt (-1) = (-1) := by decide
    exact W.iret (v := (-1)) hx hb hr (fun t ht hW => ⟨⟨(-1), (V10, L11), rfl, ⟨hMV10, agV10, alL11, (by rw [nmF_n (fun q9 => TkM.nm0 tk0 (by omega) q9.1)]; decide)⟩, by rw [ht]; exact hP, va_K.moved hW.alike hK, hD⟩, hS.F ht⟩) hS.2.2 dX12_named__29
  · skip
    have f17 : ((V10 4 0)).toInt = 1 := b_eq rfl (by decide) c14
    refine lv_aload_n hx hb dX12_named__19 rfl (lv_at hl 0 rfl) ?_
    refine va_get (D := D) (ci := 12) (v := .ref (ad 4)) (C := RX12) (T := TX12) (N := 100) hx hb hg inX12 hown hK hP 0 rfl rfl 4 (by decide) (hg _ w1710) (fun _ h9 => h9) rfl dX12_named__20 ?_
    refine lv_iconst (v := 1) hx hb dX12_named__23 (by decide) ?_
    refine va_iald (D := D) (i := 1) hx hb hK hP 2 1 rfl rfl (i_in (a := 1) (by decide) (by decide)) dX12_named__24 ?_
    refine g_top (v := V10 4 1) (congrArg (V10 4) (by decide)) ?_
    refine lv_if_eq (tgt := 30) hx hb dX12_named__25 (by decide) (fun c18 => ?_) (fun c18 => ?_)
    · skip
      have f19 : ((V10 4 1)).toInt = 0 := b_eq rfl (by decide) c18
      refine lv_iload_n hx hb dX12_named__30 rfl (lv_at hl 1 rfl) ?_
      by_cases q20 : p0 = 0
      · refine g_top (v := 0) q20 ?_
        have fq20 : p0.toInt = 0 := b_eq rfl (by decide) q20
        refine lv_tableIn (x := 0) (off := 33) (tgt := 64) hx hb dX12_named__31 (by decide) (by decide) (by decide) (by decide) ?_
        refine lv_aload_n hx hb dX12_named__64 rfl (lv_at hl 0 rfl) ?_
        refine lv_aload_n hx hb dX12_named__65 rfl (lv_at hl 0 rfl) ?_
        refine va_get (D := D) (ci := 12) (v := .ref (ad 14)) (C := RX12) (T := TX12) (N := 100) hx hb hg inX12 hown hK hP 0 rfl rfl 14 (by decide) (hg _ w1720) (fun _ h9 => h9) rfl dX12_named__66 ?_
        refine lv_bipush (v := 24) hx hb dX12_named__69 (by decide) ?_
        refine lv_aload_n hx hb dX12_named__71 rfl (lv_at hl 0 rfl) ?_
        refine va_get (D := D) (ci := 12) (v := .int (V10 0 11)) (C := RX12) (T := TX12) (N := 100) hx hb hg inX12 hown hK hP 0 rfl rfl 11 (by decide) (hg _ w1717) (fun _ h9 => h9) rfl dX12_named__72 ?_
        refine g_top (v := (V 0 11)) ((ajV10 0 11 rfl).trans (up2_k hV2 (by decide))) ?_
        refine lv_imul hx hb dX12_named__75 ?_
        refine lv_topi (fun z21 ez21 => ?_)
        have hz21 : z21.toInt = 24 * ((V 0 11)).toInt := i_mul ez21 (by decide) rfl (by (first | exact om_3f8aba7b6ce1 r1.1 r1.2 | omega))
        refine lv_aload_n hx hb dX12_named__76 rfl (lv_at hl 0 rfl) ?_
        refine va_get (D := D) (ci := 12) (v := .ref (ad 13)) (C := RX12) (T := TX12) (N := 100) hx hb hg inX12 hown hK hP 0 rfl rfl 13 (by decide) (hg _ w1719) (fun _ h9 => h9) rfl dX12_named__77 ?_
        refine lv_aload_n hx hb dX12_named__80 rfl (lv_at hl 0 rfl) ?_
        refine va_get (D := D) (ci := 12) (v := .int (V10 0 11)) (C := RX12) (T := TX12) (N := 100) hx hb hg inX12 hown hK hP 0 rfl rfl 11 (by decide) (hg _ w1717) (fun _ h9 => h9) rfl dX12_named__81 ?_
        refine g_top (v := (V 0 11)) ((ajV10 0 11 rfl).trans (up2_k hV2 (by decide))) ?_
        refine va_iald (D := D) (i := (V 0 11)) hx hb hK hP 6 5 rfl rfl (i_in (a := ((V 0 11)).toInt) rfl (by (first | exact om_8367a84723c7 r1.1 r1.2 | omega))) dX12_named__84 ?_
        refine g_top (v := (V 13 (Int32.toNatClampNeg (V 0 11)))) ((ajV10 13 (Int32.toNatClampNeg (V 0 11)) rfl).trans (up2_o hV2 (by decide))) ?_
        have r22 : 0 ≤ ((V 13 (Int32.toNatClampNeg (V 0 11)))).toInt ∧ ((V 13 (Int32.toNatClampNeg (V 0 11)))).toInt ≤ 24 := hMV 13 (Int32.toNatClampNeg (V 0 11))
        refine lv_aload_n hx hb dX12_named__85 rfl (lv_at hl 0 rfl) ?_
        refine va_get (D := D) (ci := 12) (v := .ref (ad 6)) (C := RX12) (T := TX12) (N := 100) hx hb hg inX12 hown hK hP 0 rfl rfl 6 (by decide) (hg _ w1712) (fun _ h9 => h9) rfl dX12_named__86 ?_
        refine lv_iconst (v := 0) hx hb dX12_named__89 (by decide) ?_
        refine va_lald (D := D) (i := 0) hx hb hK hP 4 3 rfl rfl (i_in (a := 0) (by decide) (by decide)) dX12_named__90 ?_
        refine gA_int (gA_runV (As := [.ref (ad 14), .int z21, .int (V 13 (Int32.toNatClampNeg (V 0 11))), .long (L11 6 0)]) (rest := []) (ci := 12) (q0 := 0) hx hb hml hown hg hP hD hK hS hA hnw hgk (s_find2_typeName l D ks H.size ad kk V10 L11 z21 (V 13 (Int32.toNatClampNeg (V 0 11))) (L11 6 0) hMV10 (by (first | exact om_c44c09625d4d r1.1 r1.2 hz21 | omega)) (by (first | exact om_f82fee59341f r22.1 r22.2 | omega)) (show z21.toInt + ((V 13 (Int32.toNatClampNeg (V 0 11)))).toInt ≤ 48 from by (first | exact om_6f18d472129c r1.2 hz21 r22.2 | omega))) w2047 w2049 w89 w172 w2050 rfl rfl hdV_yX12_find ⟨Nat.le_of_ble_eq_true rfl, Nat.le_of_ble_eq_true rfl⟩ rfl hl.1 rfl (Nat.le_of_ble_eq_true rfl) dX12_named__91 ⟨Nat.le_of_ble_eq_true rfl, Nat.le_of_ble_eq_true rfl⟩) hP hD hK hS hA (fun z23 u24 H locs w25 hP hD hK hS => ?_)
        obtain ⟨rgz23, t26, t27⟩ := w25
        replace rgz23 : (-1) ≤ z23.toInt ∧ z23.toInt ≤ 47 := rgz23
        replace t26 : z23.toInt < ((V 13 (Int32.toNatClampNeg (V 0 11)))).toInt := t26
        replace t27 : LF (fun i => L11 14 (z21.toInt.toNat + i)) ((V 13 (Int32.toNatClampNeg (V 0 11)))).toInt ((L11 6 0)) z23.toInt := t27
        have pq29 : (V10 13 bq).toInt = ((V 13 bq)).toInt := congrArg Int32.toInt ((ajV10 13 bq rfl).trans (up2_o hV2 (by decide)))
        have r30 : 0 ≤ ((V 13 bq)).toInt ∧ ((V 13 bq)).toInt ≤ 24 := hMV 13 bq
        have kb9 : Int32.toNatClampNeg (V 0 11) = bq := by have h9 := i_clamp (x := V 0 11) rfl (by (first | exact om_eafa9039069c r1.1 | omega)); (first | exact om_7d9cc8d6a75e zq1 h9 | omega)
        have hb9 : (V 13 (Int32.toNatClampNeg (V 0 11))).toInt = (V 13 bq).toInt := by rw [kb9]
        have lf28 : LF (fun i => L 14 (24 * bq + i)) (V 13 bq).toInt (L11 6 0) z23.toInt := by have h9 := t27; rw [show z21.toInt.toNat = 24 * bq from by omega, show ((V 13 (Int32.toNatClampNeg (V 0 11)))).toInt = (V 13 bq).toInt from by omega, (funext fun q9 => alL11 14 q9 rfl : L11 14 = L 14)] at h9; exact h9
        exact W.iret (v := z23) hx hb hr (fun t ht hW => ⟨⟨z23, (V10, L11), rfl, ⟨hMV10, agV10, alL11, (by rw [show p0.toInt = ((0 : Nat) : Int) from by omega]; exact LF.nm lf28 tb4.1.1 tb4.1.2 (nk 0 (by decide)) (by decide) (TkM.nm2 tk0 (by (first | exact om_710535a98d88 f17 | omega)) (by (first | exact om_b66ba74381d5 f19 | omega))))⟩, by rw [ht]; exact hP, va_K.moved hW.alike hK, hD⟩, hS.F ht⟩) hS.2.2 dX12_named__94
      by_cases q31 : p0 = 1
      · refine g_top (v := 1) q31 ?_
        have fq31 : p0.toInt = 1 := b_eq rfl (by decide) q31
        refine lv_tableIn (x := 1) (off := 64) (tgt := 95) hx hb dX12_named__31 (by decide) (by decide) (by decide) (by decide) ?_
        refine lv_aload_n hx hb dX12_named__95 rfl (lv_at hl 0 rfl) ?_
        refine lv_aload_n hx hb dX12_named__96 rfl (lv_at hl 0 rfl) ?_
        refine va_get (D := D) (ci := 12) (v := .ref (ad 17)) (C := RX12) (T := TX12) (N := 100) hx hb hg inX12 hown hK hP 0 rfl rfl 17 (by decide) (hg _ w1723) (fun _ h9 => h9) rfl dX12_named__97 ?_
        refine lv_bipush (v := 12) hx hb dX12_named__100 (by decide) ?_
        refine lv_aload_n hx hb dX12_named__102 rfl (lv_at hl 0 rfl) ?_
        refine va_get (D := D) (ci := 12) (v := .int (V10 0 11)) (C := RX12) (T := TX12) (N := 100) hx hb hg inX12 hown hK hP 0 rfl rfl 11 (by decide) (hg _ w1717) (fun _ h9 => h9) rfl dX12_named__103 ?_
        refine g_top (v := (V 0 11)) ((ajV10 0 11 rfl).trans (up2_k hV2 (by decide))) ?_
        refine lv_imul hx hb dX12_named__106 ?_
        refine lv_topi (fun z32 ez32 => ?_)
        have hz32 : z32.toInt = 12 * ((V 0 11)).toInt := i_mul ez32 (by decide) rfl (by (first | exact om_630bd6ee60c3 r1.1 r1.2 | omega))
        refine lv_aload_n hx hb dX12_named__107 rfl (lv_at hl 0 rfl) ?_
        refine va_get (D := D) (ci := 12) (v := .ref (ad 16)) (C := RX12) (T := TX12) (N := 100) hx hb hg inX12 hown hK hP 0 rfl rfl 16 (by decide) (hg _ w1722) (fun _ h9 => h9) rfl dX12_named__108 ?_
        refine lv_aload_n hx hb dX12_named__111 rfl (lv_at hl 0 rfl) ?_
        refine va_get (D := D) (ci := 12) (v := .int (V10 0 11)) (C := RX12) (T := TX12) (N := 100) hx hb hg inX12 hown hK hP 0 rfl rfl 11 (by decide) (hg _ w1717) (fun _ h9 => h9) rfl dX12_named__112 ?_
        refine g_top (v := (V 0 11)) ((ajV10 0 11 rfl).trans (up2_k hV2 (by decide))) ?_
        refine va_iald (D := D) (i := (V 0 11)) hx hb hK hP 9 8 rfl rfl (i_in (a := ((V 0 11)).toInt) rfl (by (first | exact om_8367a84723c7 r1.1 r1.2 | omega))) dX12_named__115 ?_
        refine g_top (v := (V 16 (Int32.toNatClampNeg (V 0 11)))) ((ajV10 16 (Int32.toNatClampNeg (V 0 11)) rfl).trans (up2_o hV2 (by decide))) ?_
        have r33 : 0 ≤ ((V 16 (Int32.toNatClampNeg (V 0 11)))).toInt ∧ ((V 16 (Int32.toNatClampNeg (V 0 11)))).toInt ≤ 12 := hMV 16 (Int32.toNatClampNeg (V 0 11))
        refine lv_aload_n hx hb dX12_named__116 rfl (lv_at hl 0 rfl) ?_
        refine va_get (D := D) (ci := 12) (v := .ref (ad 6)) (C := RX12) (T := TX12) (N := 100) hx hb hg inX12 hown hK hP 0 rfl rfl 6 (by decide) (hg _ w1712) (fun _ h9 => h9) rfl dX12_named__117 ?_
        refine lv_iconst (v := 0) hx hb dX12_named__120 (by decide) ?_
        refine va_lald (D := D) (i := 0) hx hb hK hP 4 3 rfl rfl (i_in (a := 0) (by decide) (by decide)) dX12_named__121 ?_
        refine gA_int (gA_runV (As := [.ref (ad 17), .int z32, .int (V 16 (Int32.toNatClampNeg (V 0 11))), .long (L11 6 0)]) (rest := []) (ci := 12) (q0 := 0) hx hb hml hown hg hP hD hK hS hA hnw hgk (s_find2_settingName l D ks H.size ad kk V10 L11 z32 (V 16 (Int32.toNatClampNeg (V 0 11))) (L11 6 0) hMV10 (by (first | exact om_cbb4348e7513 r1.1 r1.2 hz32 | omega)) (by (first | exact om_f5a2411b9512 r33.1 r33.2 | omega)) (show z32.toInt + ((V 16 (Int32.toNatClampNeg (V 0 11)))).toInt ≤ 24 from by (first | exact om_789d02abd9c5 r1.2 hz32 r33.2 | omega))) w2047 w2049 w89 w172 w2050 rfl rfl hdV_yX12_find ⟨Nat.le_of_ble_eq_true rfl, Nat.le_of_ble_eq_true rfl⟩ rfl hl.1 rfl (Nat.le_of_ble_eq_true rfl) dX12_named__122 ⟨Nat.le_of_ble_eq_true rfl, Nat.le_of_ble_eq_true rfl⟩) hP hD hK hS hA (fun z34 u35 H locs w36 hP hD hK hS => ?_)
        obtain ⟨rgz34, t37, t38⟩ := w36
        replace rgz34 : (-1) ≤ z34.toInt ∧ z34.toInt ≤ 47 := rgz34
        replace t37 : z34.toInt < ((V 16 (Int32.toNatClampNeg (V 0 11)))).toInt := t37
        replace t38 : LF (fun i => L11 17 (z32.toInt.toNat + i)) ((V 16 (Int32.toNatClampNeg (V 0 11)))).toInt ((L11 6 0)) z34.toInt := t38
        have pq40 : (V10 16 bq).toInt = ((V 16 bq)).toInt := congrArg Int32.toInt ((ajV10 16 bq rfl).trans (up2_o hV2 (by decide)))
        have r41 : 0 ≤ ((V 16 bq)).toInt ∧ ((V 16 bq)).toInt ≤ 12 := hMV 16 bq
        have kb9 : Int32.toNatClampNeg (V 0 11) = bq := by have h9 := i_clamp (x := V 0 11) rfl (by (first | exact om_eafa9039069c r1.1 | omega)); (first | exact om_7d9cc8d6a75e zq1 h9 | omega)
        have hb9 : (V 16 (Int32.toNatClampNeg (V 0 11))).toInt = (V 16 bq).toInt := by rw [kb9]
        have lf39 : LF (fun i => L 17 (12 * bq + i)) (V 16 bq).toInt (L11 6 0) z34.toInt := by have h9 := t38; rw [show z32.toInt.toNat = 12 * bq from by omega, show ((V 16 (Int32.toNatClampNeg (V 0 11)))).toInt = (V 16 bq).toInt from by omega, (funext fun q9 => alL11 17 q9 rfl : L11 17 = L 17)] at h9; exact h9
        exact W.iret (v := z34) hx hb hr (fun t ht hW => ⟨⟨z34, (V10, L11), rfl, ⟨hMV10, agV10, alL11, (by rw [show p0.toInt = ((1 : Nat) : Int) from by omega]; exact LF.nm lf39 tb4.2.1.1 tb4.2.1.2 (nk 1 (by decide)) (by decide) (TkM.nm2 tk0 (by (first | exact om_710535a98d88 f17 | omega)) (by (first | exact om_b66ba74381d5 f19 | omega))))⟩, by rw [ht]; exact hP, va_K.moved hW.alike hK, hD⟩, hS.F ht⟩) hS.2.2 dX12_named__125
      by_cases q42 : p0 = 2
      · refine g_top (v := 2) q42 ?_
        have fq42 : p0.toInt = 2 := b_eq rfl (by decide) q42
        refine lv_tableIn (x := 2) (off := 95) (tgt := 126) hx hb dX12_named__31 (by decide) (by decide) (by decide) (by decide) ?_
        refine lv_aload_n hx hb dX12_named__126 rfl (lv_at hl 0 rfl) ?_
        refine lv_aload_n hx hb dX12_named__127 rfl (lv_at hl 0 rfl) ?_
        refine va_get (D := D) (ci := 12) (v := .ref (ad 20)) (C := RX12) (T := TX12) (N := 100) hx hb hg inX12 hown hK hP 0 rfl rfl 20 (by decide) (hg _ w1726) (fun _ h9 => h9) rfl dX12_named__128 ?_
        refine lv_bipush (v := 24) hx hb dX12_named__131 (by decide) ?_
        refine lv_aload_n hx hb dX12_named__133 rfl (lv_at hl 0 rfl) ?_
        refine va_get (D := D) (ci := 12) (v := .int (V10 0 11)) (C := RX12) (T := TX12) (N := 100) hx hb hg inX12 hown hK hP 0 rfl rfl 11 (by decide) (hg _ w1717) (fun _ h9 => h9) rfl dX12_named__134 ?_
        refine g_top (v := (V 0 11)) ((ajV10 0 11 rfl).trans (up2_k hV2 (by decide))) ?_
        refine lv_imul hx hb dX12_named__137 ?_
        refine lv_topi (fun z43 ez43 => ?_)
        have hz43 : z43.toInt = 24 * ((V 0 11)).toInt := i_mul ez43 (by decide) rfl (by (first | exact om_3f8aba7b6ce1 r1.1 r1.2 | omega))
        refine lv_aload_n hx hb dX12_named__138 rfl (lv_at hl 0 rfl) ?_
        refine va_get (D := D) (ci := 12) (v := .ref (ad 19)) (C := RX12) (T := TX12) (N := 100) hx hb hg inX12 hown hK hP 0 rfl rfl 19 (by decide) (hg _ w1725) (fun _ h9 => h9) rfl dX12_named__139 ?_
        refine lv_aload_n hx hb dX12_named__142 rfl (lv_at hl 0 rfl) ?_
        refine va_get (D := D) (ci := 12) (v := .int (V10 0 11)) (C := RX12) (T := TX12) (N := 100) hx hb hg inX12 hown hK hP 0 rfl rfl 11 (by decide) (hg _ w1717) (fun _ h9 => h9) rfl dX12_named__143 ?_
        refine g_top (v := (V 0 11)) ((ajV10 0 11 rfl).trans (up2_k hV2 (by decide))) ?_
        refine va_iald (D := D) (i := (V 0 11)) hx hb hK hP 12 11 rfl rfl (i_in (a := ((V 0 11)).toInt) rfl (by (first | exact om_8367a84723c7 r1.1 r1.2 | omega))) dX12_named__146 ?_
        refine g_top (v := (V 19 (Int32.toNatClampNeg (V 0 11)))) ((ajV10 19 (Int32.toNatClampNeg (V 0 11)) rfl).trans (up2_o hV2 (by decide))) ?_
        have r44 : 0 ≤ ((V 19 (Int32.toNatClampNeg (V 0 11)))).toInt ∧ ((V 19 (Int32.toNatClampNeg (V 0 11)))).toInt ≤ 24 := hMV 19 (Int32.toNatClampNeg (V 0 11))
        refine lv_aload_n hx hb dX12_named__147 rfl (lv_at hl 0 rfl) ?_
        refine va_get (D := D) (ci := 12) (v := .ref (ad 6)) (C := RX12) (T := TX12) (N := 100) hx hb hg inX12 hown hK hP 0 rfl rfl 6 (by decide) (hg _ w1712) (fun _ h9 => h9) rfl dX12_named__148 ?_
        refine lv_iconst (v := 0) hx hb dX12_named__151 (by decide) ?_
        refine va_lald (D := D) (i := 0) hx hb hK hP 4 3 rfl rfl (i_in (a := 0) (by decide) (by decide)) dX12_named__152 ?_
        refine gA_int (gA_runV (As := [.ref (ad 20), .int z43, .int (V 19 (Int32.toNatClampNeg (V 0 11))), .long (L11 6 0)]) (rest := []) (ci := 12) (q0 := 0) hx hb hml hown hg hP hD hK hS hA hnw hgk (s_find2_componentName l D ks H.size ad kk V10 L11 z43 (V 19 (Int32.toNatClampNeg (V 0 11))) (L11 6 0) hMV10 (by (first | exact om_c44c09625d4d r1.1 r1.2 hz43 | omega)) (by (first | exact om_f82fee59341f r44.1 r44.2 | omega)) (show z43.toInt + ((V 19 (Int32.toNatClampNeg (V 0 11)))).toInt ≤ 48 from by (first | exact om_6f18d472129c r1.2 hz43 r44.2 | omega))) w2047 w2049 w89 w172 w2050 rfl rfl hdV_yX12_find ⟨Nat.le_of_ble_eq_true rfl, Nat.le_of_ble_eq_true rfl⟩ rfl hl.1 rfl (Nat.le_of_ble_eq_true rfl) dX12_named__153 ⟨Nat.le_of_ble_eq_true rfl, Nat.le_of_ble_eq_true rfl⟩) hP hD hK hS hA (fun z45 u46 H locs w47 hP hD hK hS => ?_)
        obtain ⟨rgz45, t48, t49⟩ := w47
        replace rgz45 : (-1) ≤ z45.toInt ∧ z45.toInt ≤ 47 := rgz45
        replace t48 : z45.toInt < ((V 19 (Int32.toNatClampNeg (V 0 11)))).toInt := t48
        replace t49 : LF (fun i => L11 20 (z43.toInt.toNat + i)) ((V 19 (Int32.toNatClampNeg (V 0 11)))).toInt ((L11 6 0)) z45.toInt := t49
        have pq51 : (V10 19 bq).toInt = ((V 19 bq)).toInt := congrArg Int32.toInt ((ajV10 19 bq rfl).trans (up2_o hV2 (by decide)))
        have r52 : 0 ≤ ((V 19 bq)).toInt ∧ ((V 19 bq)).toInt ≤ 24 := hMV 19 bq
        have kb9 : Int32.toNatClampNeg (V 0 11) = bq := by have h9 := i_clamp (x := V 0 11) rfl (by (first | exact om_eafa9039069c r1.1 | omega)); (first | exact om_7d9cc8d6a75e zq1 h9 | omega)
        have hb9 : (V 19 (Int32.toNatClampNeg (V 0 11))).toInt = (V 19 bq).toInt := by rw [kb9]
        have lf50 : LF (fun i => L 20 (24 * bq + i)) (V 19 bq).toInt (L11 6 0) z45.toInt := by have h9 := t49; rw [show z43.toInt.toNat = 24 * bq from by omega, show ((V 19 (Int32.toNatClampNeg (V 0 11)))).toInt = (V 19 bq).toInt from by omega, (funext fun q9 => alL11 20 q9 rfl : L11 20 = L 20)] at h9; exact h9
        exact W.iret (v := z45) hx hb hr (fun t ht hW => ⟨⟨z45, (V10, L11), rfl, ⟨hMV10, agV10, alL11, (by rw [show p0.toInt = ((2 : Nat) : Int) from by omega]; exact LF.nm lf50 tb4.2.2.1.1 tb4.2.2.1.2 (nk 2 (by decide)) (by decide) (TkM.nm2 tk0 (by (first | exact om_710535a98d88 f17 | omega)) (by (first | exact om_b66ba74381d5 f19 | omega))))⟩, by rw [ht]; exact hP, va_K.moved hW.alike hK, hD⟩, hS.F ht⟩) hS.2.2 dX12_named__156
      by_cases q53 : p0 = 3
      · refine g_top (v := 3) q53 ?_
        have fq53 : p0.toInt = 3 := b_eq rfl (by decide) q53
        refine lv_tableIn (x := 3) (off := 126) (tgt := 157) hx hb dX12_named__31 (by decide) (by decide) (by decide) (by decide) ?_
        refine lv_aload_n hx hb dX12_named__157 rfl (lv_at hl 0 rfl) ?_
        refine lv_aload_n hx hb dX12_named__158 rfl (lv_at hl 0 rfl) ?_
        refine va_get (D := D) (ci := 12) (v := .ref (ad 36)) (C := RX12) (T := TX12) (N := 100) hx hb hg inX12 hown hK hP 0 rfl rfl 36 (by decide) (hg _ w1742) (fun _ h9 => h9) rfl dX12_named__159 ?_
        refine lv_bipush (v := 20) hx hb dX12_named__162 (by decide) ?_
        refine lv_aload_n hx hb dX12_named__164 rfl (lv_at hl 0 rfl) ?_
        refine va_get (D := D) (ci := 12) (v := .int (V10 0 11)) (C := RX12) (T := TX12) (N := 100) hx hb hg inX12 hown hK hP 0 rfl rfl 11 (by decide) (hg _ w1717) (fun _ h9 => h9) rfl dX12_named__165 ?_
        refine g_top (v := (V 0 11)) ((ajV10 0 11 rfl).trans (up2_k hV2 (by decide))) ?_
        refine lv_imul hx hb dX12_named__168 ?_
        refine lv_topi (fun z54 ez54 => ?_)
        have hz54 : z54.toInt = 20 * ((V 0 11)).toInt := i_mul ez54 (by decide) rfl (by (first | exact om_1c36e316c123 r1.1 r1.2 | omega))
        refine lv_aload_n hx hb dX12_named__169 rfl (lv_at hl 0 rfl) ?_
        refine va_get (D := D) (ci := 12) (v := .ref (ad 35)) (C := RX12) (T := TX12) (N := 100) hx hb hg inX12 hown hK hP 0 rfl rfl 35 (by decide) (hg _ w1741) (fun _ h9 => h9) rfl dX12_named__170 ?_
        refine lv_aload_n hx hb dX12_named__173 rfl (lv_at hl 0 rfl) ?_
        refine va_get (D := D) (ci := 12) (v := .int (V10 0 11)) (C := RX12) (T := TX12) (N := 100) hx hb hg inX12 hown hK hP 0 rfl rfl 11 (by decide) (hg _ w1717) (fun _ h9 => h9) rfl dX12_named__174 ?_
        refine g_top (v := (V 0 11)) ((ajV10 0 11 rfl).trans (up2_k hV2 (by decide))) ?_
        refine va_iald (D := D) (i := (V 0 11)) hx hb hK hP 28 27 rfl rfl (i_in (a := ((V 0 11)).toInt) rfl (by (first | exact om_8367a84723c7 r1.1 r1.2 | omega))) dX12_named__177 ?_
        refine g_top (v := (V 35 (Int32.toNatClampNeg (V 0 11)))) ((ajV10 35 (Int32.toNatClampNeg (V 0 11)) rfl).trans (up2_o hV2 (by decide))) ?_
        have r55 : 0 ≤ ((V 35 (Int32.toNatClampNeg (V 0 11)))).toInt ∧ ((V 35 (Int32.toNatClampNeg (V 0 11)))).toInt ≤ 20 := hMV 35 (Int32.toNatClampNeg (V 0 11))
        refine lv_aload_n hx hb dX12_named__178 rfl (lv_at hl 0 rfl) ?_
        refine va_get (D := D) (ci := 12) (v := .ref (ad 6)) (C := RX12) (T := TX12) (N := 100) hx hb hg inX12 hown hK hP 0 rfl rfl 6 (by decide) (hg _ w1712) (fun _ h9 => h9) rfl dX12_named__179 ?_
        refine lv_iconst (v := 0) hx hb dX12_named__182 (by decide) ?_
        refine va_lald (D := D) (i := 0) hx hb hK hP 4 3 rfl rfl (i_in (a := 0) (by decide) (by decide)) dX12_named__183 ?_
        refine gA_int (gA_runV (As := [.ref (ad 36), .int z54, .int (V 35 (Int32.toNatClampNeg (V 0 11))), .long (L11 6 0)]) (rest := []) (ci := 12) (q0 := 0) hx hb hml hown hg hP hD hK hS hA hnw hgk (s_find2_methodName l D ks H.size ad kk V10 L11 z54 (V 35 (Int32.toNatClampNeg (V 0 11))) (L11 6 0) hMV10 (by (first | exact om_c7296700d4dd r1.1 r1.2 hz54 | omega)) (by (first | exact om_ad40d0ac5b52 r55.1 r55.2 | omega)) (show z54.toInt + ((V 35 (Int32.toNatClampNeg (V 0 11)))).toInt ≤ 40 from by (first | exact om_03a4a2dc5d03 r1.2 hz54 r55.2 | omega))) w2047 w2049 w89 w172 w2050 rfl rfl hdV_yX12_find ⟨Nat.le_of_ble_eq_true rfl, Nat.le_of_ble_eq_true rfl⟩ rfl hl.1 rfl (Nat.le_of_ble_eq_true rfl) dX12_named__184 ⟨Nat.le_of_ble_eq_true rfl, Nat.le_of_ble_eq_true rfl⟩) hP hD hK hS hA (fun z56 u57 H locs w58 hP hD hK hS => ?_)
        obtain ⟨rgz56, t59, t60⟩ := w58
        replace rgz56 : (-1) ≤ z56.toInt ∧ z56.toInt ≤ 47 := rgz56
        replace t59 : z56.toInt < ((V 35 (Int32.toNatClampNeg (V 0 11)))).toInt := t59
        replace t60 : LF (fun i => L11 36 (z54.toInt.toNat + i)) ((V 35 (Int32.toNatClampNeg (V 0 11)))).toInt ((L11 6 0)) z56.toInt := t60
        have pq62 : (V10 35 bq).toInt = ((V 35 bq)).toInt := congrArg Int32.toInt ((ajV10 35 bq rfl).trans (up2_o hV2 (by decide)))
        have r63 : 0 ≤ ((V 35 bq)).toInt ∧ ((V 35 bq)).toInt ≤ 20 := hMV 35 bq
        have kb9 : Int32.toNatClampNeg (V 0 11) = bq := by have h9 := i_clamp (x := V 0 11) rfl (by (first | exact om_eafa9039069c r1.1 | omega)); (first | exact om_7d9cc8d6a75e zq1 h9 | omega)
        have hb9 : (V 35 (Int32.toNatClampNeg (V 0 11))).toInt = (V 35 bq).toInt := by rw [kb9]
        have lf61 : LF (fun i => L 36 (20 * bq + i)) (V 35 bq).toInt (L11 6 0) z56.toInt := by have h9 := t60; rw [show z54.toInt.toNat = 20 * bq from by omega, show ((V 35 (Int32.toNatClampNeg (V 0 11)))).toInt = (V 35 bq).toInt from by omega, (funext fun q9 => alL11 36 q9 rfl : L11 36 = L 36)] at h9; exact h9
        exact W.iret (v := z56) hx hb hr (fun t ht hW => ⟨⟨z56, (V10, L11), rfl, ⟨hMV10, agV10, alL11, (by rw [show p0.toInt = ((3 : Nat) : Int) from by omega]; exact LF.nm lf61 tb4.2.2.2.1.1 tb4.2.2.2.1.2 (nk 3 (by decide)) (by decide) (TkM.nm2 tk0 (by (first | exact om_710535a98d88 f17 | omega)) (by (first | exact om_b66ba74381d5 f19 | omega))))⟩, by rw [ht]; exact hP, va_K.moved hW.alike hK, hD⟩, hS.F ht⟩) hS.2.2 dX12_named__187
      by_cases q64 : p0 = 4
      · refine g_top (v := 4) q64 ?_
        have fq64 : p0.toInt = 4 := b_eq rfl (by decide) q64
        refine lv_tableIn (x := 4) (off := 157) (tgt := 188) hx hb dX12_named__31 (by decide) (by decide) (by decide) (by decide) ?_
        refine lv_aload_n hx hb dX12_named__188 rfl (lv_at hl 0 rfl) ?_
        refine lv_aload_n hx hb dX12_named__189 rfl (lv_at hl 0 rfl) ?_
        refine va_get (D := D) (ci := 12) (v := .ref (ad 38)) (C := RX12) (T := TX12) (N := 100) hx hb hg inX12 hown hK hP 0 rfl rfl 38 (by decide) (hg _ w1744) (fun _ h9 => h9) rfl dX12_named__190 ?_
        refine lv_bipush (v := 20) hx hb dX12_named__193 (by decide) ?_
        refine lv_aload_n hx hb dX12_named__195 rfl (lv_at hl 0 rfl) ?_
        refine va_get (D := D) (ci := 12) (v := .int (V10 0 11)) (C := RX12) (T := TX12) (N := 100) hx hb hg inX12 hown hK hP 0 rfl rfl 11 (by decide) (hg _ w1717) (fun _ h9 => h9) rfl dX12_named__196 ?_
        refine g_top (v := (V 0 11)) ((ajV10 0 11 rfl).trans (up2_k hV2 (by decide))) ?_
        refine lv_imul hx hb dX12_named__199 ?_
        refine lv_topi (fun z65 ez65 => ?_)
        have hz65 : z65.toInt = 20 * ((V 0 11)).toInt := i_mul ez65 (by decide) rfl (by (first | exact om_1c36e316c123 r1.1 r1.2 | omega))
        refine lv_aload_n hx hb dX12_named__200 rfl (lv_at hl 0 rfl) ?_
        refine va_get (D := D) (ci := 12) (v := .ref (ad 37)) (C := RX12) (T := TX12) (N := 100) hx hb hg inX12 hown hK hP 0 rfl rfl 37 (by decide) (hg _ w1743) (fun _ h9 => h9) rfl dX12_named__201 ?_
        refine lv_aload_n hx hb dX12_named__204 rfl (lv_at hl 0 rfl) ?_
        refine va_get (D := D) (ci := 12) (v := .int (V10 0 11)) (C := RX12) (T := TX12) (N := 100) hx hb hg inX12 hown hK hP 0 rfl rfl 11 (by decide) (hg _ w1717) (fun _ h9 => h9) rfl dX12_named__205 ?_
        refine g_top (v := (V 0 11)) ((ajV10 0 11 rfl).trans (up2_k hV2 (by decide))) ?_
        refine va_iald (D := D) (i := (V 0 11)) hx hb hK hP 30 29 rfl rfl (i_in (a := ((V 0 11)).toInt) rfl (by (first | exact om_8367a84723c7 r1.1 r1.2 | omega))) dX12_named__208 ?_
        refine g_top (v := (V 37 (Int32.toNatClampNeg (V 0 11)))) ((ajV10 37 (Int32.toNatClampNeg (V 0 11)) rfl).trans (up2_o hV2 (by decide))) ?_
        have r66 : 0 ≤ ((V 37 (Int32.toNatClampNeg (V 0 11)))).toInt ∧ ((V 37 (Int32.toNatClampNeg (V 0 11)))).toInt ≤ 20 := hMV 37 (Int32.toNatClampNeg (V 0 11))
        refine lv_aload_n hx hb dX12_named__209 rfl (lv_at hl 0 rfl) ?_
        refine va_get (D := D) (ci := 12) (v := .ref (ad 6)) (C := RX12) (T := TX12) (N := 100) hx hb hg inX12 hown hK hP 0 rfl rfl 6 (by decide) (hg _ w1712) (fun _ h9 => h9) rfl dX12_named__210 ?_
        refine lv_iconst (v := 0) hx hb dX12_named__213 (by decide) ?_
        refine va_lald (D := D) (i := 0) hx hb hK hP 4 3 rfl rfl (i_in (a := 0) (by decide) (by decide)) dX12_named__214 ?_
        refine gA_int (gA_runV (As := [.ref (ad 38), .int z65, .int (V 37 (Int32.toNatClampNeg (V 0 11))), .long (L11 6 0)]) (rest := []) (ci := 12) (q0 := 0) hx hb hml hown hg hP hD hK hS hA hnw hgk (s_find2_callName l D ks H.size ad kk V10 L11 z65 (V 37 (Int32.toNatClampNeg (V 0 11))) (L11 6 0) hMV10 (by (first | exact om_c7296700d4dd r1.1 r1.2 hz65 | omega)) (by (first | exact om_ad40d0ac5b52 r66.1 r66.2 | omega)) (show z65.toInt + ((V 37 (Int32.toNatClampNeg (V 0 11)))).toInt ≤ 40 from by (first | exact om_03a4a2dc5d03 r1.2 hz65 r66.2 | omega))) w2047 w2049 w89 w172 w2050 rfl rfl hdV_yX12_find ⟨Nat.le_of_ble_eq_true rfl, Nat.le_of_ble_eq_true rfl⟩ rfl hl.1 rfl (Nat.le_of_ble_eq_true rfl) dX12_named__215 ⟨Nat.le_of_ble_eq_true rfl, Nat.le_of_ble_eq_true rfl⟩) hP hD hK hS hA (fun z67 u68 H locs w69 hP hD hK hS => ?_)
        obtain ⟨rgz67, t70, t71⟩ := w69
        replace rgz67 : (-1) ≤ z67.toInt ∧ z67.toInt ≤ 47 := rgz67
        replace t70 : z67.toInt < ((V 37 (Int32.toNatClampNeg (V 0 11)))).toInt := t70
        replace t71 : LF (fun i => L11 38 (z65.toInt.toNat + i)) ((V 37 (Int32.toNatClampNeg (V 0 11)))).toInt ((L11 6 0)) z67.toInt := t71
        have pq73 : (V10 37 bq).toInt = ((V 37 bq)).toInt := congrArg Int32.toInt ((ajV10 37 bq rfl).trans (up2_o hV2 (by decide)))
        have r74 : 0 ≤ ((V 37 bq)).toInt ∧ ((V 37 bq)).toInt ≤ 20 := hMV 37 bq
        have kb9 : Int32.toNatClampNeg (V 0 11) = bq := by have h9 := i_clamp (x := V 0 11) rfl (by (first | exact om_eafa9039069c r1.1 | omega)); (first | exact om_7d9cc8d6a75e zq1 h9 | omega)
        have hb9 : (V 37 (Int32.toNatClampNeg (V 0 11))).toInt = (V 37 bq).toInt := by rw [kb9]
        have lf72 : LF (fun i => L 38 (20 * bq + i)) (V 37 bq).toInt (L11 6 0) z67.toInt := by have h9 := t71; rw [show z65.toInt.toNat = 20 * bq from by omega, show ((V 37 (Int32.toNatClampNeg (V 0 11)))).toInt = (V 37 bq).toInt from by omega, (funext fun q9 => alL11 38 q9 rfl : L11 38 = L 38)] at h9; exact h9
        exact W.iret (v := z67) hx hb hr (fun t ht hW => ⟨⟨z67, (V10, L11), rfl, ⟨hMV10, agV10, alL11, (by rw [show p0.toInt = ((4 : Nat) : Int) from by omega]; exact LF.nm lf72 tb4.2.2.2.2.1 tb4.2.2.2.2.2 (nk 4 (by decide)) (by decide) (TkM.nm2 tk0 (by (first | exact om_710535a98d88 f17 | omega)) (by (first | exact om_b66ba74381d5 f19 | omega))))⟩, by rw [ht]; exact hP, va_K.moved hW.alike hK, hD⟩, hS.F ht⟩) hS.2.2 dX12_named__218
      refine lv_tableOut (x := p0) (tgt := 219) hx hb dX12_named__31 (tab_out p0 4 (by decide) (fun k hk => match k, hk with | 0, _ => q20 | 1, _ => q31 | 2, _ => q42 | 3, _ => q53 | 4, _ => q64 | k + 5, hk => absurd hk (by omega))) (by decide) ?_
      have gd75 : p0.toInt ≠ 0 := fun h9 => q20 (Int32.toInt_inj.mp (h9.trans (by decide)))
      have gd76 : p0.toInt ≠ 1 := fun h9 => q31 (Int32.toInt_inj.mp (h9.trans (by decide)))
      have gd77 : p0.toInt ≠ 2 := fun h9 => q42 (Int32.toInt_inj.mp (h9.trans (by decide)))
      have gd78 : p0.toInt ≠ 3 := fun h9 => q53 (Int32.toInt_inj.mp (h9.trans (by decide)))
      have gd79 : p0.toInt ≠ 4 := fun h9 => q64 (Int32.toInt_inj.mp (h9.trans (by decide)))
      refine lv_iconst (v := (-1)) hx hb dX12_named__219 (by decide) ?_
      have r80 : Int32.toInt (-1) = (-1) := by decide
      exact W.iret (v := (-1)) hx hb hr (fun t ht hW => ⟨⟨(-1), (V10, L11), rfl, ⟨hMV10, agV10, alL11, (by rw [nmF_n (fun q9 => by have q1 := q9.2.2; omega)]; decide)⟩, by rw [ht]; exact hP, va_K.moved hW.alike hK, hD⟩, hS.F ht⟩) hS.2.2 dX12_named__220
    · skip
      have f81 : ((V10 4 1)).toInt ≠ 0 := b_neq rfl (by decide) c18
      refine lv_iconst (v := (-1)) hx hb dX12_named__28 (by decide) ?_
      have r82 : Int32.toInt (-1) = (-1) := by decide
      exact W.iret (v := (-1)) hx hb hr (fun t ht hW => ⟨⟨(-1), (V10, L11), rfl, ⟨hMV10, agV10, alL11, (by rw [nmF_n (fun q9 => TkM.nm1 tk0 (by (first | exact om_710535a98d88 f17 | omega)) (by omega) q9.2.1)]; decide)⟩, by rw [ht]; exact hP, va_K.moved hW.alike hK, hD⟩, hS.F ht⟩) hS.2.2 dX12_named__29
