/-! a scope is opened -/
def OPN (V W : Vf) (kd dy : Int) : Prop := ∃ n : Nat, (V 3 12).toInt = (n : Int) ∧ n < 40 ∧ (W 3 12).toInt = (n : Int) + 1 ∧ ((W 21 n).toInt = kd ∧ (W 22 n).toInt = dy ∧ (W 23 n).toInt = 1) ∧ (∀ s, s ≠ n → W 21 s = V 21 s ∧ W 22 s = V 22 s ∧ W 23 s = V 23 s) ∧ ∀ c k, ¬ (c = 3 ∧ k = 12) → c ≠ 21 → c ≠ 22 → c ≠ 23 → W c k = V c k
theorem OPN.of {V V1 V2 V3 W : Vf} {n : Nat} {k d z : Int32} (hn : (V 3 12).toInt = (n : Int)) (h40 : n < 40) (h1 : V1 = up2 V 21 n k) (h2 : V2 = up2 V1 22 n d) (h3 : V3 = up2 V2 23 n 1) (h4 : W = up2 V3 3 12 z) (hz : z.toInt = (n : Int) + 1) : OPN V W k.toInt d.toInt := by
  refine ⟨n, hn, h40, by rw [up2_s h4]; exact hz, ⟨?_, ?_, ?_⟩, fun s hs => ⟨?_, ?_, ?_⟩, fun c j q h21 h22 h23 => ?_⟩
  · rw [(up2_o h4 (by decide)).trans ((up2_o h3 (by decide)).trans ((up2_o h2 (by decide)).trans (up2_s h1)))]
  · rw [(up2_o h4 (by decide)).trans ((up2_o h3 (by decide)).trans (up2_s h2))]
  · rw [(up2_o h4 (by decide)).trans (up2_s h3)]
    decide
  · exact (up2_o h4 (by decide)).trans ((up2_o h3 (by decide)).trans ((up2_o h2 (by decide)).trans (up2_k h1 hs)))
  · exact (up2_o h4 (by decide)).trans ((up2_o h3 (by decide)).trans ((up2_k h2 hs).trans (up2_o h1 (by decide))))
  · exact (up2_o h4 (by decide)).trans ((up2_k h3 hs).trans ((up2_o h2 (by decide)).trans (up2_o h1 (by decide))))
  · have e4 : W c j = V3 c j := by rw [h4]; exact up2_pl q
    exact e4.trans ((up2_o h3 h23).trans ((up2_o h2 h22).trans (up2_o h1 h21)))
/-- .. in the reference -/
def OPM (V W : Vf) (kd dy : Int) : Prop := ∃ n : Nat, (V 0 55).toInt = (n : Int) ∧ n < 40 ∧ (W 0 55).toInt = (n : Int) + 1 ∧ ((W 57 n).toInt = kd ∧ (W 58 n).toInt = dy ∧ (W 56 n).toInt = 1) ∧ (∀ s, s ≠ n → W 57 s = V 57 s ∧ W 58 s = V 58 s ∧ W 56 s = V 56 s) ∧ (∀ j, 24 * n ≤ j → j < 24 * n + 24 → (W 59 j).toInt = 0) ∧ ∀ j, ¬ (24 * n ≤ j ∧ j < 24 * n + 24) → W 59 j = V 59 j
def mvO (fs : List (Nat × Nat)) (cs : List Nat) : Bool := fs.all (fun y => y.1 == 0 && !(mvF.contains y)) && cs.all (fun c => c != 0 && (c == 56 || c == 57 || c == 58 || c == 59 || !(mvK.contains c)))
theorem mvO_f {L : List (Nat × Nat)} {cs : List Nat} (q : mvO L cs = true) {k : Nat} (h : mvF.contains (0, k) = true) : wrL L cs 0 k = false := by
  unfold mvO at q
  rw [Bool.and_eq_true, List.all_eq_true, List.all_eq_true] at q
  unfold wrL
  rw [Bool.or_eq_false_iff]
  refine ⟨?_, ?_⟩
  · rw [← Bool.not_eq_true]
    intro z
    have y := q.1 _ (List.contains_iff_mem.mp z)
    rw [Bool.and_eq_true, h] at y
    exact absurd y.2 (by decide)
  · rw [← Bool.not_eq_true]
    intro z
    have y := q.2 _ (List.contains_iff_mem.mp z)
    rw [Bool.and_eq_true] at y
    exact absurd y.1 (by decide)
theorem mvO_k {L : List (Nat × Nat)} {cs : List Nat} (q : mvO L cs = true) {c k : Nat} (h0 : c ≠ 0) (h : mvK.contains c = true) (h6 : c ≠ 56) (h7 : c ≠ 57) (h8 : c ≠ 58) (h9 : c ≠ 59) : wrL L cs c k = false := by
  unfold mvO at q
  rw [Bool.and_eq_true, List.all_eq_true, List.all_eq_true] at q
  unfold wrL
  rw [Bool.or_eq_false_iff]
  refine ⟨?_, ?_⟩
  · rw [← Bool.not_eq_true]
    intro z
    have y := q.1 _ (List.contains_iff_mem.mp z)
    rw [Bool.and_eq_true] at y
    exact h0 (eq_of_beq y.1)
  · rw [← Bool.not_eq_true]
    intro z
    have y := q.2 _ (List.contains_iff_mem.mp z)
    rw [Bool.and_eq_true, h, beq_false_of_ne h6, beq_false_of_ne h7, beq_false_of_ne h8, beq_false_of_ne h9] at y
    exact absurd y.2 (by decide)
/-- the numbers, but for the scopes' rows -/
theorem mV_op {L : List (Nat × Nat)} {cs : List Nat} {V W : Vf} (g : agr L cs V W) (q : mvO L cs = true) {x j : Nat} (h11 : x ≠ 11) (h12 : x ≠ 12) (h13 : x ≠ 13) (h8 : x ≠ 8) : mV W 0 0 0 x j = mV V 0 0 0 x j := by
  cases x with
  | zero =>
    rcases (show j = 0 ∨ j = 1 ∨ j = 2 ∨ j = 3 ∨ j = 4 ∨ j = 5 ∨ j = 6 ∨ j = 7 ∨ j = 8 ∨ j = 9 ∨ 10 ≤ j from by omega) with e10 | e10 | e10 | e10 | e10 | e10 | e10 | e10 | e10 | e10 | e10
    · subst e10
      rw [mV_00, mV_00]
      exact congrArg Int32.toInt (g 0 68 (mvO_f q rfl))
    · subst e10
      rw [mV_01, mV_01]
      exact congrArg Int32.toInt (g 0 69 (mvO_f q rfl))
    · subst e10
      rw [mV_02, mV_02]
      exact congrArg Int32.toInt (g 0 60 (mvO_f q rfl))
    · subst e10
      rw [mV_03, mV_03]
      exact congrArg Int32.toInt (g 0 65 (mvO_f q rfl))
    · subst e10
      rw [mV_04, mV_04]
      exact congrArg Int32.toInt (g 0 95 (mvO_f q rfl))
    · subst e10
      rw [mV_05, mV_05]
      exact congrArg Int32.toInt (g 0 73 (mvO_f q rfl))
    · subst e10
      rw [mV_06, mV_06]
    · subst e10
      rw [mV_07, mV_07]
    · subst e10
      rw [mV_08, mV_08]
    · subst e10
      rw [mV_09, mV_09]
    · obtain ⟨y10, rfl⟩ : ∃ y, j = y + 10 := ⟨j - 10, by omega⟩
      rw [mV_0x, mV_0x]
  | succ y =>
    by_cases hy : y < 13
    · rw [mV_row hy, mV_row hy]
      refine congrArg Int32.toInt (g _ _ (mvO_k q (mvC_k hy).1 (mvC_k hy).2 ?_ ?_ ?_ ?_))
      all_goals
        rcases (show y = 0 ∨ y = 1 ∨ y = 2 ∨ y = 3 ∨ y = 4 ∨ y = 5 ∨ y = 6 ∨ y = 8 ∨ y = 9 from by omega) with e | e | e | e | e | e | e | e | e <;> (subst e; decide)
    · rw [mV_big (by omega), mV_big (by omega)]
theorem RWn.opn {V W Vm Wm : Vf} {ow : Nat → Nat} {B : Bk} {L : List (Nat × Nat)} {cs : List Nat} {kd dy dy2 : Int} (h : RWn V ow B (mV Vm 0 0 0)) (n24 : nC B ≤ 24) (c : OPN V W kd dy) (r : OPM Vm Wm kd dy2) (e12 : (V 3 12).toInt = (Vm 0 55).toInt) (hk : kd = 2 → dy = dy2 ∧ 0 ≤ dy ∧ dy < (V 3 12).toInt) (g : agr L cs Vm Wm) (q : mvO L cs = true) : RWn W ow B (mV Wm 0 0 0) := by
  obtain ⟨n, c1, c2, c3, ⟨c4, c5, c6⟩, c7, c8⟩ := c
  obtain ⟨n2, r1, r2, r3, ⟨r4, r5, r6⟩, r7, r8, r9⟩ := r
  obtain rfl : n = n2 := by omega
  obtain ⟨ha, hb, hj, ⟨⟨s1, s2⟩, s3, s4⟩, hp⟩ := h
  have ex : ∀ x j, x ≠ 11 → x ≠ 12 → x ≠ 13 → x ≠ 8 → mV Wm 0 0 0 x j = mV Vm 0 0 0 x j := fun x j a1 a2 a3 a4 => mV_op g q a1 a2 a3 a4
  have cc : ∀ a k, a ≤ 40 → ¬ (a = 3 ∧ k = 12) → a ≠ 21 → a ≠ 22 → a ≠ 23 → W a k = V a k := fun a k _ h1 h2 h3 h4 => c8 a k h1 h2 h3 h4
  have e02 := ex 0 2 (by decide) (by decide) (by decide) (by decide)
  refine ⟨?_, fun x hx => ?_, RWj.mv hj e02 (fun q => ex 6 q (by decide) (by decide) (by decide) (by decide)) (fun q => ex 7 q (by decide) (by decide) (by decide) (by decide)) (cc 3 15 (by decide) (by decide) (by decide) (by decide) (by decide)) (fun q => cc 30 q (by decide) (by omega) (by decide) (by decide) (by decide)) (fun q => cc 31 q (by decide) (by omega) (by decide) (by decide) (by decide)) (fun q => cc 32 q (by decide) (by omega) (by decide) (by decide) (by decide)), ⟨⟨⟨by omega, by omega⟩, fun s h1 h2 => ?_⟩, fun s hs => ?_, fun s hs => ?_⟩, ⟨fun pl c hpl hc hsh => ?_, fun x y hxy hy h1 h2 h3 h4 => ?_⟩⟩
  · obtain ⟨⟨a0, a1, a2, a3⟩, a4, a5⟩ := ha
    refine ⟨⟨by rw [ex 0 0 (by decide) (by decide) (by decide) (by decide), cc 5 14 (by decide) (by decide) (by decide) (by decide) (by decide)]; exact a0, by rw [ex 0 1 (by decide) (by decide) (by decide) (by decide), cc 5 13 (by decide) (by decide) (by decide) (by decide) (by decide)]; exact a1, by rw [e02, cc 3 13 (by decide) (by decide) (by decide) (by decide) (by decide)]; exact a2, by rw [ex 0 3 (by decide) (by decide) (by decide) (by decide), cc 3 14 (by decide) (by decide) (by decide) (by decide) (by decide)]; exact a3⟩, by rw [ex 0 5 (by decide) (by decide) (by decide) (by decide), cc 4 6 (by decide) (by decide) (by decide) (by decide) (by decide)]; exact a4, fun i h1 h2 => ?_⟩
    rw [ex 0 5 (by decide) (by decide) (by decide) (by decide)] at h2
    rw [ex 9 _ (by decide) (by decide) (by decide) (by decide), ex 10 _ (by decide) (by decide) (by decide) (by decide), cc 36 _ (by decide) (by omega) (by decide) (by decide) (by decide), cc 37 _ (by decide) (by omega) (by decide) (by decide) (by decide)]
    exact a5 i h1 h2
  · rw [e02] at hx
    have z := hb x hx
    rw [ex 1 x (by decide) (by decide) (by decide) (by decide), ex 2 x (by decide) (by decide) (by decide) (by decide), ex 3 x (by decide) (by decide) (by decide) (by decide), ex 4 x (by decide) (by decide) (by decide) (by decide), cc 26 _ (by decide) (by omega) (by decide) (by decide) (by decide), cc 27 _ (by decide) (by omega) (by decide) (by decide) (by decide), cc 28 _ (by decide) (by omega) (by decide) (by decide) (by decide), cc 29 _ (by decide) (by omega) (by decide) (by decide) (by decide)]
    exact ⟨z.1, z.2.1, z.2.2.1, ⟨z.2.2.2.1.1, by have := z.2.2.2.1.2; omega⟩, z.2.2.2.2⟩
  · rw [cc 24 _ (by decide) (by omega) (by decide) (by decide) (by decide)]
    exact s2 s (by omega) h2
  · by_cases e : s = n
    · rw [e, c4]
      exact r4.symm
    · rw [(c7 s e).1]
      exact (s3 s hs).trans (congrArg Int32.toInt (r7 s e).1).symm
  · by_cases e : s = n
    · subst e
      refine ⟨c6.trans r6.symm, fun k2 => ?_, fun c hc => ?_⟩
      · have k2 : (Wm 57 s).toInt = 2 := k2
        have hd := hk (by omega)
        show (W 22 s).toInt = (Wm 58 s).toInt ∧ 0 ≤ (Wm 58 s).toInt ∧ (Wm 58 s).toInt < (W 3 12).toInt
        omega
      · rw [cc 24 _ (by decide) (by omega) (by decide) (by decide) (by decide), s2 s (by omega) (by omega), b_0]
        have z : (Wm 59 (24 * s + c)).toInt = 0 := r8 _ (by omega) (by omega)
        exact ⟨fun h => absurd h (by decide), fun h => absurd z h⟩
    · have z := s4 s (by omega)
      have e11 : mV Wm 0 0 0 11 s = mV Vm 0 0 0 11 s := congrArg Int32.toInt (r7 s e).2.2
      have e12b : mV Wm 0 0 0 12 s = mV Vm 0 0 0 12 s := congrArg Int32.toInt (r7 s e).1
      have e13 : mV Wm 0 0 0 13 s = mV Vm 0 0 0 13 s := congrArg Int32.toInt (r7 s e).2.1
      rw [e11, e12b, e13, (c7 s e).2.1, (c7 s e).2.2, cc 24 _ (by decide) (by omega) (by decide) (by decide) (by decide)]
      refine ⟨z.1, fun k2 => ?_, fun c hc => ?_⟩
      · have y := z.2.1 k2
        exact ⟨y.1, y.2.1, by have := y.2.2; omega⟩
      · have e8 : mV Wm 0 0 0 8 (24 * s + c) = mV Vm 0 0 0 8 (24 * s + c) := congrArg Int32.toInt (r9 _ (by omega))
        rw [e8]
        exact z.2.2 c hc
  · rw [cc 25 _ (by decide) (by omega) (by decide) (by decide) (by decide), hp.1 pl c hpl hc hsh, e02]
    exact (prs_ext _ (fun x _ => by rw [ex 1 x (by decide) (by decide) (by decide) (by decide), ex 2 x (by decide) (by decide) (by decide) (by decide), ex 3 x (by decide) (by decide) (by decide) (by decide)])).symm
  · rw [e02] at hy
    rw [ex 1 x (by decide) (by decide) (by decide) (by decide), ex 1 y (by decide) (by decide) (by decide) (by decide)] at h1
    rw [ex 2 x (by decide) (by decide) (by decide) (by decide), ex 2 y (by decide) (by decide) (by decide) (by decide)] at h2
    rw [ex 1 x (by decide) (by decide) (by decide) (by decide)] at h3
    rw [ex 3 x (by decide) (by decide) (by decide) (by decide)] at h4
    rw [ex 3 y (by decide) (by decide) (by decide) (by decide)]
    exact hp.2 x y hxy hy h1 h2 h3 h4
theorem SCm.opn {Vm Wm : Vf} {kd dy : Int} (w : SCm (mV Vm 0 0 0) (Vm 0 55).toInt.toNat) (r : OPM Vm Wm kd dy) (hn : 1 ≤ (Vm 0 55).toInt) (hk : kd = 1 ∨ (kd = 2 ∧ 0 < dy ∧ dy < (Vm 0 55).toInt ∧ (Vm 57 dy.toNat).toInt = 1)) : SCm (mV Wm 0 0 0) (Wm 0 55).toInt.toNat := by
  obtain ⟨n, r1, r2, r3, ⟨r4, r5, r6⟩, r7, _, _⟩ := r
  have n1 : (Vm 0 55).toInt.toNat = n := by omega
  rw [n1] at w
  have e12 : ∀ s, s ≠ n → mV Wm 0 0 0 12 s = mV Vm 0 0 0 12 s := fun s hs => congrArg Int32.toInt (r7 s hs).1
  refine ⟨(e12 0 (by omega)).trans w.1, (congrArg Int32.toInt (r7 0 (by omega)).2.2).trans w.2.1, fun j h1 h2 => ?_⟩
  by_cases e : j = n
  · subst e
    rcases hk with hk | hk
    · exact Or.inl (r4.trans hk)
    · refine Or.inr ⟨r4.trans hk.1, ?_⟩
      show 0 < (Wm 58 j).toInt ∧ (Wm 58 j).toInt < _ ∧ mV Wm 0 0 0 12 (Wm 58 j).toInt.toNat = 1
      rw [r5]
      exact ⟨hk.2.1, by omega, (e12 dy.toNat (by omega)).trans hk.2.2.2⟩
  · have z := w.2.2 j h1 (by omega)
    have e13 : mV Wm 0 0 0 13 j = mV Vm 0 0 0 13 j := congrArg Int32.toInt (r7 j e).2.1
    rw [e12 j e, e13]
    rcases z with z | z
    · exact Or.inl z
    · exact Or.inr ⟨z.1, z.2.1, by have := z.2.2.1; omega, (e12 _ (by have := z.2.2.1; omega)).trans z.2.2.2⟩
theorem dzC.opn {V W : Vf} {kd dy : Int} (h : dzC V) (c : OPN V W kd dy) (hk : (kd = 1 ∧ dy = 0) ∨ kd = 2) : dzC W := fun s h1 h2 => by
  obtain ⟨n, c1, c2, c3, ⟨c4, c5, c6⟩, c7, _⟩ := c
  by_cases e : s = n
  · subst e
    omega
  · rw [(c7 s e).1, (c7 s e).2.1]
    exact h s h1 (by omega)


abbrev r_x_open9 : Room := { frames := 0, cells := 0, slots := 0, locals := 0 }
abbrev q_x_open9 (D : va_G) (ks : KS) (ad : Nat → Nat) (kk : Nat → ClassId) (V : Vf) (L : Lf) (Z : XZ) (p0 : Int32) (p1 : Int32) (A : Nat → Prop) : Array Value → State → Outcome → State → Prop := va_Qi (fun (r : Int32) (u : Vf × Lf) => rgd bX u.1 ∧ agr [(3, 12)] [21, 22, 23] V u.1 ∧ u.2 = L ∧ ((-1) ≤ r.toInt ∧ r.toInt ≤ 39) ∧ (((r.toInt = (V 3 12).toInt ∧ (V 3 12).toInt < 40) ∧ u.1 = (up2 (up2 (up2 (up2 V 21 (Int32.toNatClampNeg (V 3 12)) p0) 22 (Int32.toNatClampNeg (V 3 12)) p1) 23 (Int32.toNatClampNeg (V 3 12)) 1) 3 12 (V 3 12 + 1))) ∨ ((r.toInt = -1 ∧ 40 ≤ (V 3 12).toInt) ∧ u.1 = V))) (fun u t => gq D A (xw ad kk u.1 u.2 Z) (xty kk Z) t) A
set_option maxHeartbeats 4000000 in
set_option maxRecDepth 100000 in
theorem x_open9 (l : Launch) (D : va_G) (ks : KS) (sz : Nat) (ad : Nat → Nat) (kk : Nat → ClassId) (V : Vf) (L : Lf) (Z : XZ) (p0 : Int32) (p1 : Int32) (hMV : rgd bX V) (rg_p1 : 0 ≤ p1.toInt ∧ p1.toInt ≤ 39)  : Met l yX8_open (Cond.code yX8_open cX8_open 3 (some .int) :: GW) r_x_open9 (va_Pc [.ref (ad 3), .int p0, .int p1] (gp D ks (xw ad kk V L Z) (xty kk Z) sz)) (q_x_open9 D ks ad kk V L Z p0 p1 (va_A (xw ad kk V L Z) sz)) 0 0 (va_A (xw ad kk V L Z) sz) := by
  refine g_met (q_x_open9 D ks ad kk V L Z p0 p1) (by decide) (Nat.le_of_ble_eq_true rfl) ?_
  intro p e s m below meth c A ls H locs hx hb hr hml hown hg hlocks hin hnw hgk hP hK hD hS hA hl
  have hown : s.vm.findClass RX8 = some m.cls := hown
  have hl : lv_has ls 3 [(0, .ref (ad 3)), (1, .int p0), (2, .int p1)] := hl
  have hP : va_P D vwCl (xw ad kk V L Z) H := hP
  have hD : va_D A (xw ad kk V L Z) := hD
  have hK : va_K D vwCl (xty kk Z) s := hK
  have agV : agr [(3, 12)] [21, 22, 23] V V := agr.rf
  refine lv_aload_n hx hb dX8_open_0 rfl (lv_at hl 0 rfl) ?_
  refine va_get (D := D) (ci := 8) (v := .int (V 3 12)) (fs := (xfStock ad V L Z)) (C := RX8) (T := TX8) (N := 16) hx hb hg inX8 hown hK hP 3 xgStock rfl 12 (by decide) (hg _ w390) (fun _ h9 => h9) rfl dX8_open_1 ?_
  have r1 : 1 ≤ ((V 3 12)).toInt ∧ ((V 3 12)).toInt ≤ 40 := hMV 3 12
  refine lv_bipush (v := 40) hx hb dX8_open_4 (by decide) ?_
  refine lv_icmp_lt (tgt := 11) hx hb dX8_open_6 (by decide) (fun c2 => ?_) (fun c2 => ?_)
  · skip
    have f3 : ((V 3 12)).toInt < 40 := b_lt rfl (by decide) c2
    refine lv_aload_n hx hb dX8_open_11 rfl (lv_at hl 0 rfl) ?_
    refine va_get (D := D) (ci := 8) (v := .ref (ad 18)) (fs := (xfStock ad V L Z)) (C := RX8) (T := TX8) (N := 16) hx hb hg inX8 hown hK hP 3 xgStock rfl 0 (by decide) (hg _ w373) (fun _ h9 => h9) rfl dX8_open_12 ?_
    refine lv_aload_n hx hb dX8_open_15 rfl (lv_at hl 0 rfl) ?_
    refine va_get (D := D) (ci := 8) (v := .int (V 3 12)) (fs := (xfStock ad V L Z)) (C := RX8) (T := TX8) (N := 16) hx hb hg inX8 hown hK hP 3 xgStock rfl 12 (by decide) (hg _ w390) (fun _ h9 => h9) rfl dX8_open_16 ?_
    refine lv_iload_n hx hb dX8_open_19 rfl (lv_at hl 1 rfl) ?_
    refine va_iast (D := D) (i := (V 3 12)) (x := p0) hx hb hK hP hD hS 18 11 rfl rfl (i_in (a := ((V 3 12)).toInt) rfl (by (first | exact om_c9b7842ae8ee r1.1 f3 | omega))) dX8_open_20 (fun H locs hP hD hS => ?_)
    obtain ⟨V4, hV4⟩ : ∃ z, z = up2 V 21 (Int32.toNatClampNeg (V 3 12)) p0 := ⟨_, rfl⟩
    have ew5 : (xw ad kk V L Z).set 18 ((ad 18), .inl ((kk 18), 40, .inl (upd (V 21) (Int32.toNatClampNeg (V 3 12)) p0))) = xw ad kk V4 L Z := by rw [hV4]; exact xw_ss (by decide) rfl (xb_si (by decide))
    have hP : va_P D vwCl (xw ad kk V4 L Z) H := by rw [← ew5]; exact hP
    have hD : va_D A (xw ad kk V4 L Z) := by rw [← ew5]; exact hD
    have hMV4 : rgd bX V4 := hMV.put hV4 (i_full _)
    have agV4 : agr [(3, 12)] [21, 22, 23] V V4 := agV.up hV4 rfl
    refine lv_aload_n hx hb dX8_open_21 rfl (lv_at hl 0 rfl) ?_
    refine va_get (D := D) (ci := 8) (v := .ref (ad 19)) (fs := (xfStock ad V4 L Z)) (C := RX8) (T := TX8) (N := 16) hx hb hg inX8 hown hK hP 3 xgStock rfl 1 (by decide) (hg _ w375) (fun _ h9 => h9) rfl dX8_open_22 ?_
    refine lv_aload_n hx hb dX8_open_25 rfl (lv_at hl 0 rfl) ?_
    refine va_get (D := D) (ci := 8) (v := .int (V4 3 12)) (fs := (xfStock ad V4 L Z)) (C := RX8) (T := TX8) (N := 16) hx hb hg inX8 hown hK hP 3 xgStock rfl 12 (by decide) (hg _ w390) (fun _ h9 => h9) rfl dX8_open_26 ?_
    refine g_top (v := (V 3 12)) (up2_o hV4 (by decide)) ?_
    refine lv_iload_n hx hb dX8_open_29 rfl (lv_at hl 2 rfl) ?_
    refine va_iast (D := D) (i := (V 3 12)) (x := p1) hx hb hK hP hD hS 19 12 rfl rfl (i_in (a := ((V 3 12)).toInt) rfl (by (first | exact om_c9b7842ae8ee r1.1 f3 | omega))) dX8_open_30 (fun H locs hP hD hS => ?_)
    obtain ⟨V6, hV6⟩ : ∃ z, z = up2 V4 22 (Int32.toNatClampNeg (V 3 12)) p1 := ⟨_, rfl⟩
    have ew7 : (xw ad kk V4 L Z).set 19 ((ad 19), .inl ((kk 19), 40, .inl (upd (V4 22) (Int32.toNatClampNeg (V 3 12)) p1))) = xw ad kk V6 L Z := by rw [hV6]; exact xw_ss (by decide) rfl (xb_si (by decide))
    have hP : va_P D vwCl (xw ad kk V6 L Z) H := by rw [← ew7]; exact hP
    have hD : va_D A (xw ad kk V6 L Z) := by rw [← ew7]; exact hD
    have hMV6 : rgd bX V6 := hMV4.put hV6 (show 0 ≤ p1.toInt ∧ p1.toInt ≤ 39 from by (first | exact om_13ba01c174fe rg_p1.1 rg_p1.2 | omega))
    have agV6 : agr [(3, 12)] [21, 22, 23] V V6 := agV4.up hV6 rfl
    refine lv_aload_n hx hb dX8_open_31 rfl (lv_at hl 0 rfl) ?_
    refine va_get (D := D) (ci := 8) (v := .ref (ad 20)) (fs := (xfStock ad V6 L Z)) (C := RX8) (T := TX8) (N := 16) hx hb hg inX8 hown hK hP 3 xgStock rfl 2 (by decide) (hg _ w376) (fun _ h9 => h9) rfl dX8_open_32 ?_
    refine lv_aload_n hx hb dX8_open_35 rfl (lv_at hl 0 rfl) ?_
    refine va_get (D := D) (ci := 8) (v := .int (V6 3 12)) (fs := (xfStock ad V6 L Z)) (C := RX8) (T := TX8) (N := 16) hx hb hg inX8 hown hK hP 3 xgStock rfl 12 (by decide) (hg _ w390) (fun _ h9 => h9) rfl dX8_open_36 ?_
    refine g_top (v := (V 3 12)) ((up2_o hV6 (by decide)).trans (up2_o hV4 (by decide))) ?_
    refine lv_iconst (v := 1) hx hb dX8_open_39 (by decide) ?_
    refine va_zast (D := D) (i := (V 3 12)) (x := 1) hx hb hK hP hD hS 20 13 rfl rfl (i_in (a := ((V 3 12)).toInt) rfl (by (first | exact om_c9b7842ae8ee r1.1 f3 | omega))) dX8_open_40 (fun H locs hP hD hS => ?_)
    obtain ⟨V8, hV8⟩ : ∃ z, z = up2 V6 23 (Int32.toNatClampNeg (V 3 12)) (vp_nar .boolean 1) := ⟨_, rfl⟩
    have ew9 : (xw ad kk V6 L Z).set 20 ((ad 20), .inl ((kk 20), 40, .inl (upd (V6 23) (Int32.toNatClampNeg (V 3 12)) (vp_nar .boolean 1)))) = xw ad kk V8 L Z := by rw [hV8]; exact xw_ss (by decide) rfl (xb_si (by decide))
    have hP : va_P D vwCl (xw ad kk V8 L Z) H := by rw [← ew9]; exact hP
    have hD : va_D A (xw ad kk V8 L Z) := by rw [← ew9]; exact hD
    have hMV8 : rgd bX V8 := hMV6.put hV8 (nar_b _)
    have agV8 : agr [(3, 12)] [21, 22, 23] V V8 := agV6.up hV8 rfl
    refine lv_aload_n hx hb dX8_open_41 rfl (lv_at hl 0 rfl) ?_
    refine lv_dup hx hb dX8_open_42 rfl ?_
    refine va_get (D := D) (ci := 8) (v := .int (V8 3 12)) (fs := (xfStock ad V8 L Z)) (C := RX8) (T := TX8) (N := 16) hx hb hg inX8 hown hK hP 3 xgStock rfl 12 (by decide) (hg _ w390) (fun _ h9 => h9) rfl dX8_open_43 ?_
    refine g_top (v := (V 3 12)) ((up2_o hV8 (by decide)).trans ((up2_o hV6 (by decide)).trans (up2_o hV4 (by decide)))) ?_
    refine lv_dup_x1 hx hb dX8_open_46 rfl rfl ?_
    refine lv_iconst (v := 1) hx hb dX8_open_47 (by decide) ?_
    refine lv_iadd hx hb dX8_open_48 ?_
    refine lv_topi (fun z10 ez10 => ?_)
    have hz10 : z10.toInt = ((V 3 12)).toInt + 1 := i_add ez10 rfl (by decide) (by (first | exact om_eab13f2fe702 r1.1 f3 | omega))
    refine va_put (D := D) (ci := 8) (v := .int z10) (ty := tyX8 12) (fs := (xfStock ad V8 L Z)) (C := RX8) (T := TX8) (N := 16) hx hb hg inX8 tyX8 tyX8_ok nmX8 hown hK hP hD hS 3 xgStock rfl 12 (by decide) (hg _ w390) (fun _ h9 => h9) rfl (tyX8_ok 12 (by decide)) rfl rfl (Nat.le_of_ble_eq_true rfl) dX8_open_49 (fun H locs hP hD hS => ?_)
    obtain ⟨V11, hV11⟩ : ∃ z, z = up2 V8 3 12 z10 := ⟨_, rfl⟩
    have ew12 : (xw ad kk V8 L Z).set 3 ((ad 3), .inr (8, (xfStock ad V8 L Z).set 12 (.int z10))) = xw ad kk V11 L Z := by rw [hV11]; exact xw_ss (by decide) rfl (xb_si (by decide))
    have hP : va_P D vwCl (xw ad kk V11 L Z) H := by rw [← ew12]; exact hP
    have hD : va_D A (xw ad kk V11 L Z) := by rw [← ew12]; exact hD
    have hMV11 : rgd bX V11 := hMV8.put hV11 (show 1 ≤ z10.toInt ∧ z10.toInt ≤ 40 from by (first | exact om_389cffd2cbd4 r1.1 f3 hz10 | omega))
    have agV11 : agr [(3, 12)] [21, 22, 23] V V11 := agV8.up hV11 rfl
    exact W.iret (v := (V 3 12)) hx hb hr (fun t ht hW => ⟨⟨(V 3 12), (V11, L), rfl, ⟨hMV11, agV11, rfl, (show (-1) ≤ ((V 3 12)).toInt ∧ ((V 3 12)).toInt ≤ 39 from by (first | exact om_f4aee0b9a3d0 r1.1 f3 | omega)), (Or.inl ⟨⟨by omega, by omega⟩, by rw [hV11, hV8, hV6, hV4, ez10] <;> rfl⟩)⟩, by rw [ht]; exact hP, va_K.moved hW.alike hK, hD⟩, hS.F ht⟩) hS.2.2 dX8_open_52
  · skip
    have f13 : 40 ≤ ((V 3 12)).toInt := b_nlt rfl (by decide) c2
    refine lv_iconst (v := (-1)) hx hb dX8_open_9 (by decide) ?_
    exact W.iret (v := (-1)) hx hb hr (fun t ht hW => ⟨⟨(-1), (V, L), rfl, ⟨hMV, agV, rfl, (by decide), (Or.inr (⟨⟨by decide, by omega⟩, rfl⟩))⟩, by rw [ht]; exact hP, va_K.moved hW.alike hK, hD⟩, hS.F ht⟩) hS.2.2 dX8_open_10
abbrev r_x_h_day9 : Room := { frames := 1, cells := 0, slots := 0, locals := 22 }
abbrev q_x_h_day9 (D : va_G) (ks : KS) (ad : Nat → Nat) (kk : Nat → ClassId) (V : Vf) (L : Lf) (Z : XZ) (A : Nat → Prop) : Array Value → State → Outcome → State → Prop := va_Qi (fun (r : Int32) (u : Vf × Lf) => rgd bX u.1 ∧ agr [(3, 12)] [21, 22, 23] V u.1 ∧ u.2 = L ∧ (((V 0 8).toInt = 1 ∧ (V 3 12).toInt < 40) → r.toInt = (V 3 12).toInt ∧ OPN V u.1 1 0) ∧ (¬ ((V 0 8).toInt = 1 ∧ (V 3 12).toInt < 40) → r.toInt = -1 ∧ agr [] [] V u.1)) (fun u t => gq D A (xw ad kk u.1 u.2 Z) (xty kk Z) t) A
set_option maxHeartbeats 4000000 in
set_option maxRecDepth 100000 in
theorem x_h_day9 (l : Launch) (D : va_G) (ks : KS) (sz : Nat) (ad : Nat → Nat) (kk : Nat → ClassId) (V : Vf) (L : Lf) (Z : XZ)  (hMV : rgd bX V)  : Met l yX11_day (Cond.code yX11_day cX11_day 1 (some .int) :: GW) r_x_h_day9 (va_Pc [.ref (ad 0)] (gp D ks (xw ad kk V L Z) (xty kk Z) sz)) (q_x_h_day9 D ks ad kk V L Z  (va_A (xw ad kk V L Z) sz)) 0 0 (va_A (xw ad kk V L Z) sz) := by
  refine g_met (q_x_h_day9 D ks ad kk V L Z) (by decide) (Nat.le_of_ble_eq_true rfl) ?_
  intro p e s m below meth c A ls H locs hx hb hr hml hown hg hlocks hin hnw hgk hP hK hD hS hA hl
  have hown : s.vm.findClass RX11 = some m.cls := hown
  have hl : lv_has ls 1 [(0, .ref (ad 0))] := hl
  have hP : va_P D vwCl (xw ad kk V L Z) H := hP
  have hD : va_D A (xw ad kk V L Z) := hD
  have hK : va_K D vwCl (xty kk Z) s := hK
  have agV : agr [(3, 12)] [21, 22, 23] V V := agr.rf
  refine lv_aload_n hx hb dX11_day_0 rfl (lv_at hl 0 rfl) ?_
  refine va_get (D := D) (ci := 11) (v := .int (V 0 8)) (fs := (xfHouse ad V L Z)) (C := RX11) (T := TX11) (N := 10) hx hb hg inX11 hown hK hP 0 xgHouse rfl 8 (by decide) (hg _ w723) (fun _ h9 => h9) rfl dX11_day_1 ?_
  have r1 : 0 ≤ ((V 0 8)).toInt ∧ ((V 0 8)).toInt ≤ 1 := hMV 0 8
  refine lv_if_eq (tgt := 19) hx hb dX11_day_4 (by decide) (fun c2 => ?_) (fun c2 => ?_)
  · skip
    have f3 : ((V 0 8)).toInt = 0 := b_eq rfl (by decide) c2
    refine lv_iconst (v := (-1)) hx hb dX11_day_19 (by decide) ?_
    exact W.iret (v := (-1)) hx hb hr (fun t ht hW => ⟨⟨(-1), (V, L), rfl, ⟨hMV, agV, rfl, (fun h9 => by exfalso; omega), (fun _ => ⟨by decide, agr.rf⟩)⟩, by rw [ht]; exact hP, va_K.moved hW.alike hK, hD⟩, hS.F ht⟩) hS.2.2 dX11_day_20
  · skip
    have f4 : ((V 0 8)).toInt ≠ 0 := b_neq rfl (by decide) c2
    refine lv_aload_n hx hb dX11_day_7 rfl (lv_at hl 0 rfl) ?_
    refine va_get (D := D) (ci := 11) (v := .ref (ad 3)) (fs := (xfHouse ad V L Z)) (C := RX11) (T := TX11) (N := 10) hx hb hg inX11 hown hK hP 0 xgHouse rfl 3 (by decide) (hg _ w718) (fun _ h9 => h9) rfl dX11_day_8 ?_
    refine lv_iconst (v := 1) hx hb dX11_day_11 (by decide) ?_
    refine lv_iconst (v := 0) hx hb dX11_day_12 (by decide) ?_
    have r5 : Int32.toInt 1 = 1 := by decide
    have r6 : Int32.toInt 0 = 0 := by decide
    refine gA_int (gA_runV (As := [.int 1, .int 0]) (rest := []) (ci := 8) (q0 := 3) hx hb hml hown hg hP hD hK hS hA hnw hgk (x_open9 l D ks H.size ad kk V L Z 1 0 hMV (by decide)) w1150 w1151 w1152 w164 w1153 rfl xgStock hdV_yX8_open ⟨Nat.le_of_ble_eq_true rfl, Nat.le_of_ble_eq_true rfl⟩ rfl hl.1 rfl (Nat.le_of_ble_eq_true rfl) dX11_day_13 ⟨Nat.le_of_ble_eq_true rfl, Nat.le_of_ble_eq_true rfl⟩) hP hD hK hS hA (fun z7 u8 H locs w9 hP hD hK hS => ?_)
    obtain ⟨V11, L12⟩ := u8
    obtain ⟨hMV11, ajV11, axL12, rgz7, t10⟩ := w9
    have axL12 : L = L12 := Eq.symm axL12
    subst axL12
    have hP : va_P D vwCl (xw ad kk V11 L Z) H := hP
    have hD : va_D A (xw ad kk V11 L Z) := hD
    have hMV11 : rgd bX V11 := hMV11
    have ajV11 : agr [(3, 12)] [21, 22, 23] V V11 := ajV11
    have agV11 : agr [(3, 12)] [21, 22, 23] V V11 := agV.tr ajV11 (by decide) (by decide)
    have rgz7 : (-1) ≤ z7.toInt ∧ z7.toInt ≤ 39 := rgz7
    have t10 : ((z7.toInt = (V 3 12).toInt ∧ (V 3 12).toInt < 40) ∧ V11 = (up2 (up2 (up2 (up2 V 21 (Int32.toNatClampNeg (V 3 12)) 1) 22 (Int32.toNatClampNeg (V 3 12)) 0) 23 (Int32.toNatClampNeg (V 3 12)) 1) 3 12 (V 3 12 + 1))) ∨ ((z7.toInt = -1 ∧ 40 ≤ (V 3 12).toInt) ∧ V11 = V) := t10
    rcases t10 with ⟨hc13, hw14⟩ | ⟨hc15, hw16⟩
    · skip
      obtain ⟨V17, hV17⟩ : ∃ z, z = up2 V 21 (Int32.toNatClampNeg (V 3 12)) 1 := ⟨_, rfl⟩
      obtain ⟨V18, hV18⟩ : ∃ z, z = up2 V17 22 (Int32.toNatClampNeg (V 3 12)) 0 := ⟨_, rfl⟩
      obtain ⟨V19, hV19⟩ : ∃ z, z = up2 V18 23 (Int32.toNatClampNeg (V 3 12)) 1 := ⟨_, rfl⟩
      have r21 : 1 ≤ ((V 3 12)).toInt ∧ ((V 3 12)).toInt ≤ 40 := hMV 3 12
      obtain ⟨z20, ez20⟩ : ∃ y : Int32, y = V 3 12 + 1 := ⟨_, rfl⟩
      have hz20 : z20.toInt = (V 3 12).toInt + 1 := i_add ez20 rfl (by decide) (by (first | exact om_b118672944e8 r21.1 r21.2 | omega))
      have hV11 : V11 = up2 V19 3 12 z20 := by rw [hw14, hV19, hV18, hV17, ez20]
      refine lv_goto (tgt := 20) hx hb dX11_day_16 (by decide) ?_
      have k12 := i_clamp (x := V 3 12) rfl (by (first | exact om_c078ef78e547 r21.1 | omega))
      have d1 : Int32.toInt 1 = 1 := by decide
      have d2 : Int32.toInt 2 = 2 := by decide
      have d0 : Int32.toInt 0 = 0 := by decide
      have op22 : OPN V V11 (1) (0) := by have h9 := OPN.of (n := Int32.toNatClampNeg (V 3 12)) (by omega) (by omega) hV17 hV18 hV19 hV11 (by omega); simpa only [d0, d1, d2] using h9
      exact W.iret (v := z7) hx hb hr (fun t ht hW => ⟨⟨z7, (V11, L), rfl, ⟨hMV11, agV11, rfl, (fun _ => ⟨by have h8 := hc13; omega, op22⟩), (fun h9 => absurd ⟨by omega, by have h8 := hc13; omega⟩ h9)⟩, by rw [ht]; exact hP, va_K.moved hW.alike hK, hD⟩, hS.F ht⟩) hS.2.2 dX11_day_20
    · skip
      have ajV11 : agr [] [] V V11 := by rw [hw16]; exact agr.rf
      refine lv_goto (tgt := 20) hx hb dX11_day_16 (by decide) ?_
      exact W.iret (v := z7) hx hb hr (fun t ht hW => ⟨⟨z7, (V11, L), rfl, ⟨hMV11, agV11, rfl, (fun h9 => by exfalso; have h8 := hc15; omega), (fun _ => ⟨by have h8 := hc15; omega, ajV11⟩)⟩, by rw [ht]; exact hP, va_K.moved hW.alike hK, hD⟩, hS.F ht⟩) hS.2.2 dX11_day_20
abbrev r_x_h_meal9 : Room := { frames := 1, cells := 0, slots := 0, locals := 22 }
abbrev q_x_h_meal9 (D : va_G) (ks : KS) (ad : Nat → Nat) (kk : Nat → ClassId) (V : Vf) (L : Lf) (Z : XZ) (p0 : Int32) (A : Nat → Prop) : Array Value → State → Outcome → State → Prop := va_Qi (fun (r : Int32) (u : Vf × Lf) => rgd bX u.1 ∧ agr [(3, 12)] [21, 22, 23] V u.1 ∧ u.2 = L ∧ (((V 0 8).toInt = 1 ∧ (0 ≤ p0.toInt ∧ p0.toInt < (V 3 12).toInt ∧ (V 23 (Int32.toNatClampNeg p0)).toInt = 1) ∧ (V 21 (Int32.toNatClampNeg p0)).toInt = 1 ∧ (V 3 12).toInt < 40) → r.toInt = (V 3 12).toInt ∧ OPN V u.1 2 p0.toInt) ∧ (¬ ((V 0 8).toInt = 1 ∧ (0 ≤ p0.toInt ∧ p0.toInt < (V 3 12).toInt ∧ (V 23 (Int32.toNatClampNeg p0)).toInt = 1) ∧ (V 21 (Int32.toNatClampNeg p0)).toInt = 1 ∧ (V 3 12).toInt < 40) → r.toInt = -1 ∧ agr [] [] V u.1)) (fun u t => gq D A (xw ad kk u.1 u.2 Z) (xty kk Z) t) A
set_option maxHeartbeats 4000000 in
set_option maxRecDepth 100000 in
theorem x_h_meal9 (l : Launch) (D : va_G) (ks : KS) (sz : Nat) (ad : Nat → Nat) (kk : Nat → ClassId) (V : Vf) (L : Lf) (Z : XZ) (p0 : Int32) (hMV : rgd bX V)  : Met l yX11_meal (Cond.code yX11_meal cX11_meal 3 (some .int) :: GW) r_x_h_meal9 (va_Pc [.ref (ad 0), .int p0] (gp D ks (xw ad kk V L Z) (xty kk Z) sz)) (q_x_h_meal9 D ks ad kk V L Z p0 (va_A (xw ad kk V L Z) sz)) 0 0 (va_A (xw ad kk V L Z) sz) := by
  refine g_met (q_x_h_meal9 D ks ad kk V L Z p0) (by decide) (Nat.le_of_ble_eq_true rfl) ?_
  intro p e s m below meth c A ls H locs hx hb hr hml hown hg hlocks hin hnw hgk hP hK hD hS hA hl
  have hown : s.vm.findClass RX11 = some m.cls := hown
  have hl : lv_has ls 3 [(0, .ref (ad 0)), (1, .int p0)] := hl
  have hP : va_P D vwCl (xw ad kk V L Z) H := hP
  have hD : va_D A (xw ad kk V L Z) := hD
  have hK : va_K D vwCl (xty kk Z) s := hK
  have agV : agr [(3, 12)] [21, 22, 23] V V := agr.rf
  refine lv_aload_n hx hb dX11_meal_0 rfl (lv_at hl 0 rfl) ?_
  refine va_get (D := D) (ci := 11) (v := .ref (ad 3)) (fs := (xfHouse ad V L Z)) (C := RX11) (T := TX11) (N := 10) hx hb hg inX11 hown hK hP 0 xgHouse rfl 3 (by decide) (hg _ w718) (fun _ h9 => h9) rfl dX11_meal_1 ?_
  refine lv_iload_n hx hb dX11_meal_4 rfl (lv_at hl 1 rfl) ?_
  refine gA_int (gA_runV (As := [.int p0]) (rest := []) (ci := 8) (q0 := 3) hx hb hml hown hg hP hD hK hS hA hnw hgk (x_isOpen9 l D ks H.size ad kk V L Z p0 hMV ) w1158 w1159 w1160 w164 w1161 rfl xgStock hdV_yX8_isOpen ⟨Nat.le_of_ble_eq_true rfl, Nat.le_of_ble_eq_true rfl⟩ rfl hl.1 rfl (Nat.le_of_ble_eq_true rfl) dX11_meal_5 ⟨Nat.le_of_ble_eq_true rfl, Nat.le_of_ble_eq_true rfl⟩) hP hD hK hS hA (fun z1 u2 H locs w3 hP hD hK hS => ?_)
  obtain ⟨rgz1, t4, t5⟩ := w3
  have rgz1 : 0 ≤ z1.toInt ∧ z1.toInt ≤ 1 := rgz1
  have t4 : Imp (z1.toInt = 1) (0 ≤ p0.toInt ∧ p0.toInt < (V 3 12).toInt) := t4
  have t5 : (z1.toInt = 1 ∧ 0 ≤ p0.toInt ∧ p0.toInt < (V 3 12).toInt ∧ (V 23 (Int32.toNatClampNeg p0)).toInt = 1) ∨ (z1.toInt = 0 ∧ (p0.toInt < 0 ∨ (V 3 12).toInt ≤ p0.toInt ∨ (V 23 (Int32.toNatClampNeg p0)).toInt = 0)) := t5
  have r6 : 1 ≤ ((V 3 12)).toInt ∧ ((V 3 12)).toInt ≤ 40 := hMV 3 12
  refine lv_if_eq (tgt := 28) hx hb dX11_meal_8 (by decide) (fun c7 => ?_) (fun c7 => ?_)
  · skip
    have f8 : z1.toInt = 0 := b_eq rfl (by decide) c7
    refine lv_iconst (v := 0) hx hb dX11_meal_28 (by decide) ?_
    refine lv_istore_n (lv' := [(2, .int 0), (0, .ref (ad 0)), (1, .int p0)]) hx hb dX11_meal_29 rfl hl (by decide) rfl (fun ls hl => ?_)
    refine lv_aload_n hx hb dX11_meal_30 rfl (lv_at hl 1 rfl) ?_
    refine va_get (D := D) (ci := 11) (v := .int (V 0 8)) (fs := (xfHouse ad V L Z)) (C := RX11) (T := TX11) (N := 10) hx hb hg inX11 hown hK hP 0 xgHouse rfl 8 (by decide) (hg _ w723) (fun _ h9 => h9) rfl dX11_meal_31 ?_
    have r9 : 0 ≤ ((V 0 8)).toInt ∧ ((V 0 8)).toInt ≤ 1 := hMV 0 8
    refine lv_if_eq (tgt := 53) hx hb dX11_meal_34 (by decide) (fun c10 => ?_) (fun c10 => ?_)
    · skip
      have f11 : ((V 0 8)).toInt = 0 := b_eq rfl (by decide) c10
      refine lv_iconst (v := (-1)) hx hb dX11_meal_53 (by decide) ?_
      exact W.iret (v := (-1)) hx hb hr (fun t ht hW => ⟨⟨(-1), (V, L), rfl, ⟨hMV, agV, rfl, (fun h9 => by have h1 := h9.1; have h2 := h9.2.1.1; have h3 := h9.2.1.2.1; have h4 := h9.2.1.2.2; have h5 := h9.2.2.1; have h6 := h9.2.2.2; exfalso; omega), (fun _ => ⟨by decide, agr.rf⟩)⟩, by rw [ht]; exact hP, va_K.moved hW.alike hK, hD⟩, hS.F ht⟩) hS.2.2 dX11_meal_54
    · skip
      have f12 : ((V 0 8)).toInt ≠ 0 := b_neq rfl (by decide) c10
      refine lv_iload_n hx hb dX11_meal_37 rfl (lv_at hl 0 rfl) ?_
      refine lv_if_eq (tgt := 53) hx hb dX11_meal_38 (by decide) (fun _ => ?_) (fun q => absurd (by decide) q)
      refine lv_iconst (v := (-1)) hx hb dX11_meal_53 (by decide) ?_
      exact W.iret (v := (-1)) hx hb hr (fun t ht hW => ⟨⟨(-1), (V, L), rfl, ⟨hMV, agV, rfl, (fun h9 => by have h1 := h9.1; have h2 := h9.2.1.1; have h3 := h9.2.1.2.1; have h4 := h9.2.1.2.2; have h5 := h9.2.2.1; have h6 := h9.2.2.2; exfalso; omega), (fun _ => ⟨by decide, agr.rf⟩)⟩, by rw [ht]; exact hP, va_K.moved hW.alike hK, hD⟩, hS.F ht⟩) hS.2.2 dX11_meal_54
  · skip
    have f13 : z1.toInt ≠ 0 := b_neq rfl (by decide) c7
    have rh14 := Imp.go t4 (by (first | exact om_2ebe32d50835 rgz1.1 rgz1.2 f13 | omega))
    refine lv_aload_n hx hb dX11_meal_11 rfl (lv_at hl 0 rfl) ?_
    refine va_get (D := D) (ci := 11) (v := .ref (ad 3)) (fs := (xfHouse ad V L Z)) (C := RX11) (T := TX11) (N := 10) hx hb hg inX11 hown hK hP 0 xgHouse rfl 3 (by decide) (hg _ w718) (fun _ h9 => h9) rfl dX11_meal_12 ?_
    refine va_getN (D := D) (ci := 8) (v := .ref (ad 18)) (fs := (xfStock ad V L Z)) (C := RX8) (T := TX8) (N := 16) hx hb hg inX8 hown hK hP 3 xgStock rfl 0 (by decide) (hnw.use 374 n374 rfl) (fun _ h9 => h9) rfl dX11_meal_15 ?_
    refine lv_iload_n hx hb dX11_meal_18 rfl (lv_at hl 1 rfl) ?_
    refine va_iald (D := D) (i := p0) hx hb hK hP 18 11 rfl rfl (i_in (a := p0.toInt) rfl (by first | exact om_49f02bcec547 r6.2 rh14.1 ((Imp.go t4 (imp_a (rgz1.1) (rgz1.2) (f13))).2) | first | omega | ((try (have i_t4 := Imp.go t4 (by omega))); omega))) dX11_meal_19 ?_
    refine lv_iconst (v := 1) hx hb dX11_meal_20 (by decide) ?_
    refine lv_icmp_ne (tgt := 28) hx hb dX11_meal_21 (by decide) (fun c15 => ?_) (fun c15 => ?_)
    · skip
      have f16 : ((V 21 (Int32.toNatClampNeg p0))).toInt ≠ 1 := b_neq rfl (by decide) c15
      refine lv_iconst (v := 0) hx hb dX11_meal_28 (by decide) ?_
      refine lv_istore_n (lv' := [(2, .int 0), (0, .ref (ad 0)), (1, .int p0)]) hx hb dX11_meal_29 rfl hl (by decide) rfl (fun ls hl => ?_)
      refine lv_aload_n hx hb dX11_meal_30 rfl (lv_at hl 1 rfl) ?_
      refine va_get (D := D) (ci := 11) (v := .int (V 0 8)) (fs := (xfHouse ad V L Z)) (C := RX11) (T := TX11) (N := 10) hx hb hg inX11 hown hK hP 0 xgHouse rfl 8 (by decide) (hg _ w723) (fun _ h9 => h9) rfl dX11_meal_31 ?_
      have r17 : 0 ≤ ((V 0 8)).toInt ∧ ((V 0 8)).toInt ≤ 1 := hMV 0 8
      refine lv_if_eq (tgt := 53) hx hb dX11_meal_34 (by decide) (fun c18 => ?_) (fun c18 => ?_)
      · skip
        have f19 : ((V 0 8)).toInt = 0 := b_eq rfl (by decide) c18
        refine lv_iconst (v := (-1)) hx hb dX11_meal_53 (by decide) ?_
        exact W.iret (v := (-1)) hx hb hr (fun t ht hW => ⟨⟨(-1), (V, L), rfl, ⟨hMV, agV, rfl, (fun h9 => by have h1 := h9.1; have h2 := h9.2.1.1; have h3 := h9.2.1.2.1; have h4 := h9.2.1.2.2; have h5 := h9.2.2.1; have h6 := h9.2.2.2; exfalso; omega), (fun _ => ⟨by decide, agr.rf⟩)⟩, by rw [ht]; exact hP, va_K.moved hW.alike hK, hD⟩, hS.F ht⟩) hS.2.2 dX11_meal_54
      · skip
        have f20 : ((V 0 8)).toInt ≠ 0 := b_neq rfl (by decide) c18
        refine lv_iload_n hx hb dX11_meal_37 rfl (lv_at hl 0 rfl) ?_
        refine lv_if_eq (tgt := 53) hx hb dX11_meal_38 (by decide) (fun _ => ?_) (fun q => absurd (by decide) q)
        refine lv_iconst (v := (-1)) hx hb dX11_meal_53 (by decide) ?_
        exact W.iret (v := (-1)) hx hb hr (fun t ht hW => ⟨⟨(-1), (V, L), rfl, ⟨hMV, agV, rfl, (fun h9 => by have h1 := h9.1; have h2 := h9.2.1.1; have h3 := h9.2.1.2.1; have h4 := h9.2.1.2.2; have h5 := h9.2.2.1; have h6 := h9.2.2.2; exfalso; omega), (fun _ => ⟨by decide, agr.rf⟩)⟩, by rw [ht]; exact hP, va_K.moved hW.alike hK, hD⟩, hS.F ht⟩) hS.2.2 dX11_meal_54
    · skip
      have f21 : ((V 21 (Int32.toNatClampNeg p0))).toInt = 1 := b_eq rfl (by decide) c15
      refine lv_iconst (v := 1) hx hb dX11_meal_24 (by decide) ?_
      refine lv_goto (tgt := 29) hx hb dX11_meal_25 (by decide) ?_
      refine lv_istore_n (lv' := [(2, .int 1), (0, .ref (ad 0)), (1, .int p0)]) hx hb dX11_meal_29 rfl hl (by decide) rfl (fun ls hl => ?_)
      refine lv_aload_n hx hb dX11_meal_30 rfl (lv_at hl 1 rfl) ?_
      refine va_get (D := D) (ci := 11) (v := .int (V 0 8)) (fs := (xfHouse ad V L Z)) (C := RX11) (T := TX11) (N := 10) hx hb hg inX11 hown hK hP 0 xgHouse rfl 8 (by decide) (hg _ w723) (fun _ h9 => h9) rfl dX11_meal_31 ?_
      have r22 : 0 ≤ ((V 0 8)).toInt ∧ ((V 0 8)).toInt ≤ 1 := hMV 0 8
      refine lv_if_eq (tgt := 53) hx hb dX11_meal_34 (by decide) (fun c23 => ?_) (fun c23 => ?_)
      · skip
        have f24 : ((V 0 8)).toInt = 0 := b_eq rfl (by decide) c23
        refine lv_iconst (v := (-1)) hx hb dX11_meal_53 (by decide) ?_
        exact W.iret (v := (-1)) hx hb hr (fun t ht hW => ⟨⟨(-1), (V, L), rfl, ⟨hMV, agV, rfl, (fun h9 => by have h1 := h9.1; have h2 := h9.2.1.1; have h3 := h9.2.1.2.1; have h4 := h9.2.1.2.2; have h5 := h9.2.2.1; have h6 := h9.2.2.2; exfalso; omega), (fun _ => ⟨by decide, agr.rf⟩)⟩, by rw [ht]; exact hP, va_K.moved hW.alike hK, hD⟩, hS.F ht⟩) hS.2.2 dX11_meal_54
      · skip
        have f25 : ((V 0 8)).toInt ≠ 0 := b_neq rfl (by decide) c23
        refine lv_iload_n hx hb dX11_meal_37 rfl (lv_at hl 0 rfl) ?_
        refine lv_if_eq (tgt := 53) hx hb dX11_meal_38 (by decide) (fun q => absurd q (by decide)) (fun _ => ?_)
        refine lv_aload_n hx hb dX11_meal_41 rfl (lv_at hl 1 rfl) ?_
        refine va_get (D := D) (ci := 11) (v := .ref (ad 3)) (fs := (xfHouse ad V L Z)) (C := RX11) (T := TX11) (N := 10) hx hb hg inX11 hown hK hP 0 xgHouse rfl 3 (by decide) (hg _ w718) (fun _ h9 => h9) rfl dX11_meal_42 ?_
        refine lv_iconst (v := 2) hx hb dX11_meal_45 (by decide) ?_
        refine lv_iload_n hx hb dX11_meal_46 rfl (lv_at hl 2 rfl) ?_
        have r26 : Int32.toInt 2 = 2 := by decide
        refine gA_int (gA_runV (As := [.int 2, .int p0]) (rest := []) (ci := 8) (q0 := 3) hx hb hml hown hg hP hD hK hS hA hnw hgk (x_open9 l D ks H.size ad kk V L Z 2 p0 hMV (by first | exact om_cf6921065cda r6.2 ((Imp.go t4 (imp_a (rgz1.1) (rgz1.2) (f13))).1) ((Imp.go t4 (imp_a (rgz1.1) (rgz1.2) (f13))).2) | first | omega | ((try (have i_t4 := Imp.go t4 (by omega))); omega))) w1150 w1151 w1152 w164 w1153 rfl xgStock hdV_yX8_open ⟨Nat.le_of_ble_eq_true rfl, Nat.le_of_ble_eq_true rfl⟩ rfl hl.1 rfl (Nat.le_of_ble_eq_true rfl) dX11_meal_47 ⟨Nat.le_of_ble_eq_true rfl, Nat.le_of_ble_eq_true rfl⟩) hP hD hK hS hA (fun z27 u28 H locs w29 hP hD hK hS => ?_)
        obtain ⟨V31, L32⟩ := u28
        obtain ⟨hMV31, ajV31, axL32, rgz27, t30⟩ := w29
        have axL32 : L = L32 := Eq.symm axL32
        subst axL32
        have hP : va_P D vwCl (xw ad kk V31 L Z) H := hP
        have hD : va_D A (xw ad kk V31 L Z) := hD
        have hMV31 : rgd bX V31 := hMV31
        have ajV31 : agr [(3, 12)] [21, 22, 23] V V31 := ajV31
        have agV31 : agr [(3, 12)] [21, 22, 23] V V31 := agV.tr ajV31 (by decide) (by decide)
        have rgz27 : (-1) ≤ z27.toInt ∧ z27.toInt ≤ 39 := rgz27
        have t30 : ((z27.toInt = (V 3 12).toInt ∧ (V 3 12).toInt < 40) ∧ V31 = (up2 (up2 (up2 (up2 V 21 (Int32.toNatClampNeg (V 3 12)) 2) 22 (Int32.toNatClampNeg (V 3 12)) p0) 23 (Int32.toNatClampNeg (V 3 12)) 1) 3 12 (V 3 12 + 1))) ∨ ((z27.toInt = -1 ∧ 40 ≤ (V 3 12).toInt) ∧ V31 = V) := t30
        rcases t30 with ⟨hc33, hw34⟩ | ⟨hc35, hw36⟩
        · skip
          obtain ⟨V37, hV37⟩ : ∃ z, z = up2 V 21 (Int32.toNatClampNeg (V 3 12)) 2 := ⟨_, rfl⟩
          obtain ⟨V38, hV38⟩ : ∃ z, z = up2 V37 22 (Int32.toNatClampNeg (V 3 12)) p0 := ⟨_, rfl⟩
          obtain ⟨V39, hV39⟩ : ∃ z, z = up2 V38 23 (Int32.toNatClampNeg (V 3 12)) 1 := ⟨_, rfl⟩
          obtain ⟨z40, ez40⟩ : ∃ y : Int32, y = V 3 12 + 1 := ⟨_, rfl⟩
          have hz40 : z40.toInt = (V 3 12).toInt + 1 := i_add ez40 rfl (by decide) (by first | exact om_b118672944e8 r6.1 r6.2 | first | omega | ((try (have i_t4 := Imp.go t4 (by omega))); omega))
          have hV31 : V31 = up2 V39 3 12 z40 := by rw [hw34, hV39, hV38, hV37, ez40]
          refine lv_goto (tgt := 54) hx hb dX11_meal_50 (by decide) ?_
          have k12 := i_clamp (x := V 3 12) rfl (by (first | exact om_c078ef78e547 r6.1 | omega))
          have d1 : Int32.toInt 1 = 1 := by decide
          have d2 : Int32.toInt 2 = 2 := by decide
          have d0 : Int32.toInt 0 = 0 := by decide
          have op41 : OPN V V31 (2) (p0.toInt) := by have h9 := OPN.of (n := Int32.toNatClampNeg (V 3 12)) (by omega) (by omega) hV37 hV38 hV39 hV31 (by omega); simpa only [d0, d1, d2] using h9
          exact W.iret (v := z27) hx hb hr (fun t ht hW => ⟨⟨z27, (V31, L), rfl, ⟨hMV31, agV31, rfl, (fun _ => ⟨by have h8 := hc33; omega, op41⟩), (fun h9 => absurd ⟨by omega, ⟨by omega, by omega, by omega⟩, by omega, by have h8 := hc33; omega⟩ h9)⟩, by rw [ht]; exact hP, va_K.moved hW.alike hK, hD⟩, hS.F ht⟩) hS.2.2 dX11_meal_54
        · skip
          have ajV31 : agr [] [] V V31 := by rw [hw36]; exact agr.rf
          refine lv_goto (tgt := 54) hx hb dX11_meal_50 (by decide) ?_
          exact W.iret (v := z27) hx hb hr (fun t ht hW => ⟨⟨z27, (V31, L), rfl, ⟨hMV31, agV31, rfl, (fun h9 => by have h1 := h9.1; have h2 := h9.2.1.1; have h3 := h9.2.1.2.1; have h4 := h9.2.1.2.2; have h5 := h9.2.2.1; have h6 := h9.2.2.2; exfalso; have h8 := hc35; omega), (fun _ => ⟨by have h8 := hc35; omega, ajV31⟩)⟩, by rw [ht]; exact hP, va_K.moved hW.alike hK, hD⟩, hS.F ht⟩) hS.2.2 dX11_meal_54
abbrev r_s_scope3 : Room := { frames := 0, cells := 0, slots := 0, locals := 0 }
abbrev q_s_scope3 (D : va_G) (ks : KS) (ad : Nat → Nat) (kk : Nat → ClassId) (V : Vf) (L : Lf) (p0 : Int32) (p1 : Int32) (A : Nat → Prop) : Array Value → State → Outcome → State → Prop := va_Qi (fun (r : Int32) (u : Vf × Lf) => rgd bM u.1 ∧ agr [(0, 55)] [56, 57, 58, 59] V u.1 ∧ u.2 = L ∧ ((-1) ≤ r.toInt ∧ r.toInt ≤ 39) ∧ (((V 0 54).toInt = 1 ∧ (V 0 55).toInt < 40) → r.toInt = (V 0 55).toInt ∧ OPM V u.1 p0.toInt p1.toInt) ∧ (¬ ((V 0 54).toInt = 1 ∧ (V 0 55).toInt < 40) → r.toInt = -1 ∧ agr [] [] V u.1)) (fun u t => gq D A (mw ad kk ks.1 u.1 u.2) (mty kk) t) A
set_option maxHeartbeats 4000000 in
set_option maxRecDepth 100000 in
theorem s_scope3 (l : Launch) (D : va_G) (ks : KS) (sz : Nat) (ad : Nat → Nat) (kk : Nat → ClassId) (V : Vf) (L : Lf) (p0 : Int32) (p1 : Int32) (hMV : rgd bM V) (rg_p1 : (-1) ≤ p1.toInt ∧ p1.toInt ≤ 39)  : Met l yX12_scope (Cond.code yX12_scope cX12_scope 4 (some .int) :: GW) r_s_scope3 (va_Pc [.ref (ad 0), .int p0, .int p1] (gp D ks (mw ad kk ks.1 V L) (mty kk) sz)) (q_s_scope3 D ks ad kk V L p0 p1 (va_A (mw ad kk ks.1 V L) sz)) 0 0 (va_A (mw ad kk ks.1 V L) sz) := by
  refine g_met (q_s_scope3 D ks ad kk V L p0 p1) (by decide) (Nat.le_of_ble_eq_true rfl) ?_
  intro p e s m below meth c A ls H locs hx hb hr hml hown hg hlocks hin hnw hgk hP hK hD hS hA hl
  have hown : s.vm.findClass RX12 = some m.cls := hown
  have hl : lv_has ls 4 [(0, .ref (ad 0)), (1, .int p0), (2, .int p1)] := hl
  have hP : va_P D vwCl (mw ad kk ks.1 V L) H := hP
  have hD : va_D A (mw ad kk ks.1 V L) := hD
  have hK : va_K D vwCl (mty kk) s := hK
  have agV : agr [(0, 55)] [56, 57, 58, 59] V V := agr.rf
  refine lv_aload_n hx hb dX12_scope_0 rfl (lv_at hl 0 rfl) ?_
  refine va_get (D := D) (ci := 12) (v := .int (V 0 54)) (C := RX12) (T := TX12) (N := 100) hx hb hg inX12 hown hK hP 0 rfl rfl 54 (by decide) (hg _ w1760) (fun _ h9 => h9) rfl dX12_scope_1 ?_
  have r1 : 0 ≤ ((V 0 54)).toInt ∧ ((V 0 54)).toInt ≤ 1 := hMV 0 54
  refine lv_if_eq (tgt := 16) hx hb dX12_scope_4 (by decide) (fun c2 => ?_) (fun c2 => ?_)
  · skip
    have f3 : ((V 0 54)).toInt = 0 := b_eq rfl (by decide) c2
    refine lv_iconst (v := (-1)) hx hb dX12_scope_16 (by decide) ?_
    exact W.iret (v := (-1)) hx hb hr (fun t ht hW => ⟨⟨(-1), (V, L), rfl, ⟨hMV, agV, rfl, (by decide), (fun h9 => by have h1 := h9.1; have h2 := h9.2; exfalso; omega), (fun _ => ⟨by decide, agr.rf⟩)⟩, by rw [ht]; exact hP, va_K.moved hW.alike hK, hD⟩, hS.F ht⟩) hS.2.2 dX12_scope_17
  · skip
    have f4 : ((V 0 54)).toInt ≠ 0 := b_neq rfl (by decide) c2
    refine lv_aload_n hx hb dX12_scope_7 rfl (lv_at hl 0 rfl) ?_
    refine va_get (D := D) (ci := 12) (v := .int (V 0 55)) (C := RX12) (T := TX12) (N := 100) hx hb hg inX12 hown hK hP 0 rfl rfl 55 (by decide) (hg _ w1761) (fun _ h9 => h9) rfl dX12_scope_8 ?_
    have r5 : 1 ≤ ((V 0 55)).toInt ∧ ((V 0 55)).toInt ≤ 40 := hMV 0 55
    refine lv_bipush (v := 40) hx hb dX12_scope_11 (by decide) ?_
    refine lv_icmp_ne (tgt := 18) hx hb dX12_scope_13 (by decide) (fun c6 => ?_) (fun c6 => ?_)
    · skip
      have f7 : ((V 0 55)).toInt ≠ 40 := b_neq rfl (by decide) c6
      refine lv_aload_n hx hb dX12_scope_18 rfl (lv_at hl 0 rfl) ?_
      refine va_get (D := D) (ci := 12) (v := .ref (ad 56)) (C := RX12) (T := TX12) (N := 100) hx hb hg inX12 hown hK hP 0 rfl rfl 56 (by decide) (hg _ w1762) (fun _ h9 => h9) rfl dX12_scope_19 ?_
      refine lv_aload_n hx hb dX12_scope_22 rfl (lv_at hl 0 rfl) ?_
      refine va_get (D := D) (ci := 12) (v := .int (V 0 55)) (C := RX12) (T := TX12) (N := 100) hx hb hg inX12 hown hK hP 0 rfl rfl 55 (by decide) (hg _ w1761) (fun _ h9 => h9) rfl dX12_scope_23 ?_
      refine lv_iconst (v := 1) hx hb dX12_scope_26 (by decide) ?_
      refine va_zast (D := D) (i := (V 0 55)) (x := 1) hx hb hK hP hD hS 42 41 rfl rfl (i_in (a := ((V 0 55)).toInt) rfl (by (first | exact om_04eeaa0e380a r5.1 r5.2 f7 | omega))) dX12_scope_27 (fun H locs hP hD hS => ?_)
      obtain ⟨V8, hV8⟩ : ∃ z, z = up2 V 56 (Int32.toNatClampNeg (V 0 55)) (vp_nar .boolean 1) := ⟨_, rfl⟩
      have hP : va_P D vwCl (mw ad kk ks.1 V8 L) H := by rw [hV8]; exact hP
      have hD : va_D A (mw ad kk ks.1 V8 L) := by rw [hV8]; exact hD
      have hMV8 : rgd bM V8 := hMV.put hV8 (nar_b _)
      have agV8 : agr [(0, 55)] [56, 57, 58, 59] V V8 := agV.up hV8 rfl
      refine lv_aload_n hx hb dX12_scope_28 rfl (lv_at hl 0 rfl) ?_
      refine va_get (D := D) (ci := 12) (v := .ref (ad 57)) (C := RX12) (T := TX12) (N := 100) hx hb hg inX12 hown hK hP 0 rfl rfl 57 (by decide) (hg _ w1763) (fun _ h9 => h9) rfl dX12_scope_29 ?_
      refine lv_aload_n hx hb dX12_scope_32 rfl (lv_at hl 0 rfl) ?_
      refine va_get (D := D) (ci := 12) (v := .int (V8 0 55)) (C := RX12) (T := TX12) (N := 100) hx hb hg inX12 hown hK hP 0 rfl rfl 55 (by decide) (hg _ w1761) (fun _ h9 => h9) rfl dX12_scope_33 ?_
      refine g_top (v := (V 0 55)) (up2_o hV8 (by decide)) ?_
      refine lv_iload_n hx hb dX12_scope_36 rfl (lv_at hl 1 rfl) ?_
      refine va_iast (D := D) (i := (V 0 55)) (x := p0) hx hb hK hP hD hS 43 42 rfl rfl (i_in (a := ((V 0 55)).toInt) rfl (by (first | exact om_04eeaa0e380a r5.1 r5.2 f7 | omega))) dX12_scope_37 (fun H locs hP hD hS => ?_)
      obtain ⟨V9, hV9⟩ : ∃ z, z = up2 V8 57 (Int32.toNatClampNeg (V 0 55)) p0 := ⟨_, rfl⟩
      have hP : va_P D vwCl (mw ad kk ks.1 V9 L) H := by rw [hV9]; exact hP
      have hD : va_D A (mw ad kk ks.1 V9 L) := by rw [hV9]; exact hD
      have hMV9 : rgd bM V9 := hMV8.put hV9 (i_full _)
      have agV9 : agr [(0, 55)] [56, 57, 58, 59] V V9 := agV8.up hV9 rfl
      refine lv_aload_n hx hb dX12_scope_38 rfl (lv_at hl 0 rfl) ?_
      refine va_get (D := D) (ci := 12) (v := .ref (ad 58)) (C := RX12) (T := TX12) (N := 100) hx hb hg inX12 hown hK hP 0 rfl rfl 58 (by decide) (hg _ w1764) (fun _ h9 => h9) rfl dX12_scope_39 ?_
      refine lv_aload_n hx hb dX12_scope_42 rfl (lv_at hl 0 rfl) ?_
      refine va_get (D := D) (ci := 12) (v := .int (V9 0 55)) (C := RX12) (T := TX12) (N := 100) hx hb hg inX12 hown hK hP 0 rfl rfl 55 (by decide) (hg _ w1761) (fun _ h9 => h9) rfl dX12_scope_43 ?_
      refine g_top (v := (V 0 55)) ((up2_o hV9 (by decide)).trans (up2_o hV8 (by decide))) ?_
      refine lv_iload_n hx hb dX12_scope_46 rfl (lv_at hl 2 rfl) ?_
      refine va_iast (D := D) (i := (V 0 55)) (x := p1) hx hb hK hP hD hS 44 43 rfl rfl (i_in (a := ((V 0 55)).toInt) rfl (by (first | exact om_04eeaa0e380a r5.1 r5.2 f7 | omega))) dX12_scope_47 (fun H locs hP hD hS => ?_)
      obtain ⟨V10, hV10⟩ : ∃ z, z = up2 V9 58 (Int32.toNatClampNeg (V 0 55)) p1 := ⟨_, rfl⟩
      have hP : va_P D vwCl (mw ad kk ks.1 V10 L) H := by rw [hV10]; exact hP
      have hD : va_D A (mw ad kk ks.1 V10 L) := by rw [hV10]; exact hD
      have hMV10 : rgd bM V10 := hMV9.put hV10 (show (-1) ≤ p1.toInt ∧ p1.toInt ≤ 39 from by (first | exact om_f252d5c70457 rg_p1.1 rg_p1.2 | omega))
      have agV10 : agr [(0, 55)] [56, 57, 58, 59] V V10 := agV9.up hV10 rfl
      obtain ⟨gU, hgU⟩ : ∃ z, z = V10 := ⟨_, rfl⟩
      refine lv_iconst (v := 0) hx hb dX12_scope_48 (by decide) ?_
      refine lv_istore_n (lv' := [(3, .int 0), (0, .ref (ad 0)), (1, .int p0), (2, .int p1)]) hx hb dX12_scope_49 rfl hl (by decide) rfl (fun ls hl => ?_)
      have lp13 : ∀ (fulp13 : Nat) (y11 : Int32) (V12 : Vf) (H : Heap) (locs : List Loc) (ls : Array Slot), 0 ≤ y11.toInt ∧ y11.toInt ≤ 24 → ((∀ j : Nat, ¬ (24 * (Int32.toNatClampNeg (V 0 55)) ≤ j ∧ (j : Int) < 24 * (((Int32.toNatClampNeg (V 0 55)) : Nat) : Int) + y11.toInt) → V12 59 j = gU 59 j) ∧ (∀ j : Nat, 24 * (Int32.toNatClampNeg (V 0 55)) ≤ j → (j : Int) < 24 * (((Int32.toNatClampNeg (V 0 55)) : Nat) : Int) + y11.toInt → (V12 59 j).toInt = 0)) → 24 - y11.toInt < (fulp13 : Int) → agr [] [59] V10 V12 → rgd bM V12 → va_P D vwCl (mw ad kk ks.1 V12 L) H → va_D A (mw ad kk ks.1 V12 L) → va_S A s.heap H locs → lv_has ls 4 [(3, .int y11), (0, .ref (ad 0)), (1, .int p0), (2, .int p1)] → W p l e r_s_scope3 s m ([.ref (ad 0), .int p0, .int p1] : List Value).toArray below meth c H locs 0 0 (MQ below (q_s_scope3 D ks ad kk V L p0 p1 A) ([.ref (ad 0), .int p0, .int p1] : List Value).toArray s 0 0 A) (F0 m 50 ls []) := by
        intro fulp13
        induction fulp13 with
        | zero =>
          intro y11 V12 H locs ls klp13_0 xlp13_0 hn ajV12 hMV12 hP hD hS hl
          exfalso; (first | exact om_9386ef0df612 klp13_0.2 hn | omega)
        | succ fulp13 ihlp13 =>
          intro y11 V12 H locs ls klp13_0 xlp13_0 hn ajV12 hMV12 hP hD hS hl
          have agV12 : agr [(0, 55)] [56, 57, 58, 59] V V12 := agV10.tr ajV12 (by decide) (by decide)
          refine lv_iload_n hx hb dX12_scope_50 rfl (lv_at hl 0 rfl) ?_
          refine lv_bipush (v := 24) hx hb dX12_scope_51 (by decide) ?_
          refine lv_icmp_ge (tgt := 77) hx hb dX12_scope_53 (by decide) (fun c14 => ?_) (fun c14 => ?_)
          · skip
            have f15 : 24 ≤ y11.toInt := b_le (by decide) rfl c14
            refine lv_aload_n hx hb dX12_scope_77 rfl (lv_at hl 1 rfl) ?_
            refine lv_dup hx hb dX12_scope_78 rfl ?_
            refine va_get (D := D) (ci := 12) (v := .int (V12 0 55)) (C := RX12) (T := TX12) (N := 100) hx hb hg inX12 hown hK hP 0 rfl rfl 55 (by decide) (hg _ w1761) (fun _ h9 => h9) rfl dX12_scope_79 ?_
            refine g_top (v := (V 0 55)) ((ajV12 0 55 rfl).trans ((up2_o hV10 (by decide)).trans ((up2_o hV9 (by decide)).trans (up2_o hV8 (by decide))))) ?_
            refine lv_iconst (v := 1) hx hb dX12_scope_82 (by decide) ?_
            refine lv_iadd hx hb dX12_scope_83 ?_
            refine lv_topi (fun z16 ez16 => ?_)
            have hz16 : z16.toInt = ((V 0 55)).toInt + 1 := i_add ez16 rfl (by decide) (by (first | exact om_06e8b4467060 r5.1 r5.2 f7 | omega))
            refine va_put (D := D) (ci := 12) (v := .int z16) (ty := tyX12 55) (C := RX12) (T := TX12) (N := 100) hx hb hg inX12 tyX12 tyX12_ok nmX12 hown hK hP hD hS 0 rfl rfl 55 (by decide) (hg _ w1761) (fun _ h9 => h9) rfl (tyX12_ok 55 (by decide)) rfl rfl (Nat.le_of_ble_eq_true rfl) dX12_scope_84 (fun H locs hP hD hS => ?_)
            obtain ⟨V17, hV17⟩ : ∃ z, z = up2 V12 0 55 z16 := ⟨_, rfl⟩
            have hP : va_P D vwCl (mw ad kk ks.1 V17 L) H := by rw [hV17]; exact hP
            have hD : va_D A (mw ad kk ks.1 V17 L) := by rw [hV17]; exact hD
            have hMV17 : rgd bM V17 := hMV12.put hV17 (show 1 ≤ z16.toInt ∧ z16.toInt ≤ 40 from by (first | exact om_0d5c93fca766 r5.1 r5.2 f7 hz16 | omega))
            have agV17 : agr [(0, 55)] [56, 57, 58, 59] V V17 := agV12.up hV17 rfl
            refine lv_aload_n hx hb dX12_scope_87 rfl (lv_at hl 1 rfl) ?_
            refine va_get (D := D) (ci := 12) (v := .int (V17 0 55)) (C := RX12) (T := TX12) (N := 100) hx hb hg inX12 hown hK hP 0 rfl rfl 55 (by decide) (hg _ w1761) (fun _ h9 => h9) rfl dX12_scope_88 ?_
            refine g_top (v := z16) (up2_s hV17) ?_
            refine lv_iconst (v := 1) hx hb dX12_scope_91 (by decide) ?_
            refine lv_isub hx hb dX12_scope_92 ?_
            refine lv_topi (fun z18 ez18 => ?_)
            have hz18 : z18.toInt = z16.toInt - 1 := i_sub ez18 rfl (by decide) (by (first | exact om_c5e64f00e272 r5.1 r5.2 f7 hz16 | omega))
            have pq20 : (V17 0 55).toInt = z16.toInt := congrArg Int32.toInt (up2_s hV17)
            have k55 := i_clamp (x := V 0 55) rfl (by (first | exact om_c078ef78e547 r5.1 | omega))
            have g59 := xlp13_0
            have so19 : OPM V V17 p0.toInt p1.toInt := ⟨(Int32.toNatClampNeg (V 0 55)), by omega, by omega, by omega, ⟨by rw [((show agr [(0, 55)] [59] V10 V17 from (agr.up (agr.tr agr.rf ajV12 (by decide) (by decide)) hV17 rfl)) 57 _ rfl).trans ((up2_o hV10 (by decide)).trans (up2_s hV9))], by rw [((show agr [(0, 55)] [59] V10 V17 from (agr.up (agr.tr agr.rf ajV12 (by decide) (by decide)) hV17 rfl)) 58 _ rfl).trans (up2_s hV10)], by rw [((show agr [(0, 55)] [59] V10 V17 from (agr.up (agr.tr agr.rf ajV12 (by decide) (by decide)) hV17 rfl)) 56 _ rfl).trans ((up2_o hV10 (by decide)).trans ((up2_o hV9 (by decide)).trans (up2_s hV8)))]; decide⟩, fun s9 h9 => ⟨((show agr [(0, 55)] [59] V10 V17 from (agr.up (agr.tr agr.rf ajV12 (by decide) (by decide)) hV17 rfl)) 57 _ rfl).trans ((up2_o hV10 (by decide)).trans ((up2_k hV9 h9).trans (up2_o hV8 (by decide)))), ((show agr [(0, 55)] [59] V10 V17 from (agr.up (agr.tr agr.rf ajV12 (by decide) (by decide)) hV17 rfl)) 58 _ rfl).trans ((up2_k hV10 h9).trans ((up2_o hV9 (by decide)).trans (up2_o hV8 (by decide)))), ((show agr [(0, 55)] [59] V10 V17 from (agr.up (agr.tr agr.rf ajV12 (by decide) (by decide)) hV17 rfl)) 56 _ rfl).trans ((up2_o hV10 (by decide)).trans ((up2_o hV9 (by decide)).trans (up2_k hV8 h9)))⟩, fun j9 h1 h2 => by rw [(show agr [(0, 55)] [] V12 V17 from (agr.up agr.rf hV17 rfl)) 59 j9 rfl]; exact g59.2 j9 h1 (by omega), fun j9 h9 => ((show agr [(0, 55)] [] V12 V17 from (agr.up agr.rf hV17 rfl)) 59 j9 rfl).trans ((g59.1 j9 (by omega)).trans (by rw [hgU]; exact ((up2_o hV10 (by decide)).trans ((up2_o hV9 (by decide)).trans (up2_o hV8 (by decide))))))⟩
            exact W.iret (v := z18) hx hb hr (fun t ht hW => ⟨⟨z18, (V17, L), rfl, ⟨hMV17, agV17, rfl, (show (-1) ≤ z18.toInt ∧ z18.toInt ≤ 39 from by (first | exact om_182f93eac4c1 r5.1 r5.2 f7 hz16 hz18 | omega)), (fun _ => ⟨by omega, so19⟩), (fun h9 => absurd ⟨by omega, by omega⟩ h9)⟩, by rw [ht]; exact hP, va_K.moved hW.alike hK, hD⟩, hS.F ht⟩) hS.2.2 dX12_scope_93
          · skip
            have f21 : y11.toInt < 24 := b_nle (by decide) rfl c14
            refine lv_aload_n hx hb dX12_scope_56 rfl (lv_at hl 1 rfl) ?_
            refine va_get (D := D) (ci := 12) (v := .ref (ad 59)) (C := RX12) (T := TX12) (N := 100) hx hb hg inX12 hown hK hP 0 rfl rfl 59 (by decide) (hg _ w1765) (fun _ h9 => h9) rfl dX12_scope_57 ?_
            refine lv_bipush (v := 24) hx hb dX12_scope_60 (by decide) ?_
            refine lv_aload_n hx hb dX12_scope_62 rfl (lv_at hl 1 rfl) ?_
            refine va_get (D := D) (ci := 12) (v := .int (V12 0 55)) (C := RX12) (T := TX12) (N := 100) hx hb hg inX12 hown hK hP 0 rfl rfl 55 (by decide) (hg _ w1761) (fun _ h9 => h9) rfl dX12_scope_63 ?_
            refine g_top (v := (V 0 55)) ((ajV12 0 55 rfl).trans ((up2_o hV10 (by decide)).trans ((up2_o hV9 (by decide)).trans (up2_o hV8 (by decide))))) ?_
            refine lv_imul hx hb dX12_scope_66 ?_
            refine lv_topi (fun z22 ez22 => ?_)
            have hz22 : z22.toInt = 24 * ((V 0 55)).toInt := i_mul ez22 (by decide) rfl (by (first | exact om_40f2ea1c9679 r5.1 r5.2 f7 | omega))
            refine lv_iload_n hx hb dX12_scope_67 rfl (lv_at hl 0 rfl) ?_
            refine lv_iadd hx hb dX12_scope_68 ?_
            refine lv_topi (fun z23 ez23 => ?_)
            have hz23 : z23.toInt = z22.toInt + y11.toInt := i_add ez23 rfl rfl (by (first | exact om_bff1431baab4 r5.1 r5.2 f7 klp13_0.1 f21 hz22 | omega))
            refine lv_iconst (v := 0) hx hb dX12_scope_69 (by decide) ?_
            refine va_zast (D := D) (i := z23) (x := 0) hx hb hK hP hD hS 45 44 rfl rfl (i_in (a := z23.toInt) rfl (by (first | exact om_c1765e7d7775 r5.1 r5.2 f7 klp13_0.1 f21 hz22 hz23 | omega))) dX12_scope_70 (fun H locs hP hD hS => ?_)
            obtain ⟨V24, hV24⟩ : ∃ z, z = up2 V12 59 (Int32.toNatClampNeg z23) (vp_nar .boolean 0) := ⟨_, rfl⟩
            have hP : va_P D vwCl (mw ad kk ks.1 V24 L) H := by rw [hV24]; exact hP
            have hD : va_D A (mw ad kk ks.1 V24 L) := by rw [hV24]; exact hD
            have hMV24 : rgd bM V24 := hMV12.put hV24 (nar_b _)
            have agV24 : agr [(0, 55)] [56, 57, 58, 59] V V24 := agV12.up hV24 rfl
            obtain ⟨z25, ez25⟩ : ∃ y : Int32, y = y11 + 1 := ⟨_, rfl⟩
            have hz25 : z25.toInt = y11.toInt + 1 := i_add ez25 rfl (by decide) (by (first | exact om_bc9106cf44c9 klp13_0.1 f21 | omega))
            refine lv_iinc (v := z25) (lv' := [(3, .int z25), (0, .ref (ad 0)), (1, .int p0), (2, .int p1)]) hx hb dX12_scope_71 hl (k := 0) rfl (by rw [ez25]; rfl) (by decide) rfl (fun ls hl => ?_)
            refine lv_goto (tgt := 50) hx hb dX12_scope_74 (by decide) ?_
            have k55 := i_clamp (x := V 0 55) rfl (by (first | exact om_c078ef78e547 r5.1 | omega))
            have kz9 : (Int32.toNatClampNeg z23) = 24 * Int32.toNatClampNeg (V 0 55) + y11.toInt.toNat := by have h9 := i_clamp (x := z23) rfl (by (first | exact om_18d517c905c9 r5.1 klp13_0.1 hz22 hz23 | omega)); (first | exact om_56471a8a6542 klp13_0.1 hz22 hz23 k55 h9 | omega)
            have so26 : ((∀ j : Nat, ¬ (24 * (Int32.toNatClampNeg (V 0 55)) ≤ j ∧ (j : Int) < 24 * (((Int32.toNatClampNeg (V 0 55)) : Nat) : Int) + z25.toInt) → V24 59 j = gU 59 j) ∧ (∀ j : Nat, 24 * (Int32.toNatClampNeg (V 0 55)) ≤ j → (j : Int) < 24 * (((Int32.toNatClampNeg (V 0 55)) : Nat) : Int) + z25.toInt → (V24 59 j).toInt = 0)) := by
              refine ⟨fun j9 h9 => (up2_k hV24 (by rw [kz9]; omega)).trans (xlp13_0.1 j9 (by omega)), fun j9 h1 h2 => ?_⟩
              by_cases q9 : j9 = (Int32.toNatClampNeg z23)
              · rw [q9, up2_s hV24]; decide
              · rw [up2_k hV24 q9]; exact xlp13_0.2 j9 h1 (by omega)
            exact ihlp13 z25 V24 H locs ls (by (first | exact om_a5349b170263 klp13_0.1 f21 hz25 | omega)) so26 (by (first | exact om_9592d9319ffa hn hz25 | omega)) (agr.up (agr.tr agr.rf ajV12 (by decide) (by decide)) hV24 rfl) hMV24 hP hD hS (lv_sub hl [0, 1, 2, 3] rfl)
      have r27 : Int32.toInt 0 = 0 := by decide
      exact lp13 ((24 - (Int32.toInt 0) + 1 : Int).toNat) 0 V10 H locs ls (by decide) ⟨fun j9 _ => by rw [hgU], fun j9 h1 h2 => by have h9 : Int32.toInt 0 = 0 := (by decide); exfalso; omega⟩ (by (first | exact om_817980d3aa47 | omega)) agr.rf hMV10 hP hD hS (lv_sub hl [0, 1, 2, 3] rfl)
    · skip
      have f28 : ((V 0 55)).toInt = 40 := b_eq rfl (by decide) c6
      refine lv_iconst (v := (-1)) hx hb dX12_scope_16 (by decide) ?_
      exact W.iret (v := (-1)) hx hb hr (fun t ht hW => ⟨⟨(-1), (V, L), rfl, ⟨hMV, agV, rfl, (by decide), (fun h9 => by have h1 := h9.1; have h2 := h9.2; exfalso; omega), (fun _ => ⟨by decide, agr.rf⟩)⟩, by rw [ht]; exact hP, va_K.moved hW.alike hK, hD⟩, hS.F ht⟩) hS.2.2 dX12_scope_17
abbrev r_s_day3 : Room := { frames := 1, cells := 0, slots := 0, locals := 23 }
abbrev q_s_day3 (D : va_G) (ks : KS) (ad : Nat → Nat) (kk : Nat → ClassId) (V : Vf) (L : Lf) (A : Nat → Prop) : Array Value → State → Outcome → State → Prop := va_Qi (fun (r : Int32) (u : Vf × Lf) => rgd bM u.1 ∧ agr [(0, 0), (0, 55)] [56, 57, 58, 59] V u.1 ∧ u.2 = L ∧ ((-1) ≤ r.toInt ∧ r.toInt ≤ 39) ∧ (((V 0 54).toInt = 1 ∧ (V 0 55).toInt < 40) → r.toInt = (V 0 55).toInt ∧ OPM V u.1 1 (-1)) ∧ (¬ ((V 0 54).toInt = 1 ∧ (V 0 55).toInt < 40) → r.toInt = -1 ∧ agr [(0, 0)] [] V u.1)) (fun u t => gq D A (mw ad kk ks.1 u.1 u.2) (mty kk) t) A
set_option maxHeartbeats 4000000 in
set_option maxRecDepth 100000 in
theorem s_day3 (l : Launch) (D : va_G) (ks : KS) (sz : Nat) (ad : Nat → Nat) (kk : Nat → ClassId) (V : Vf) (L : Lf)  (hMV : rgd bM V)  : Met l yX12_day (Cond.code yX12_day cX12_day 1 (some .int) :: GW) r_s_day3 (va_Pc [.ref (ad 0)] (gp D ks (mw ad kk ks.1 V L) (mty kk) sz)) (q_s_day3 D ks ad kk V L  (va_A (mw ad kk ks.1 V L) sz)) 0 0 (va_A (mw ad kk ks.1 V L) sz) := by
  refine g_met (q_s_day3 D ks ad kk V L) (by decide) (Nat.le_of_ble_eq_true rfl) ?_
  intro p e s m below meth c A ls H locs hx hb hr hml hown hg hlocks hin hnw hgk hP hK hD hS hA hl
  have hown : s.vm.findClass RX12 = some m.cls := hown
  have hl : lv_has ls 1 [(0, .ref (ad 0))] := hl
  have hP : va_P D vwCl (mw ad kk ks.1 V L) H := hP
  have hD : va_D A (mw ad kk ks.1 V L) := hD
  have hK : va_K D vwCl (mty kk) s := hK
  have agV : agr [(0, 0), (0, 55)] [56, 57, 58, 59] V V := agr.rf
  refine lv_aload_n hx hb dX12_day_0 rfl (lv_at hl 0 rfl) ?_
  refine lv_iconst (v := 0) hx hb dX12_day_1 (by decide) ?_
  refine va_put (D := D) (ci := 12) (v := .int 0) (ty := tyX12 0) (C := RX12) (T := TX12) (N := 100) hx hb hg inX12 tyX12 tyX12_ok nmX12 hown hK hP hD hS 0 rfl rfl 0 (by decide) (hg _ w1706) (fun _ h9 => h9) rfl (tyX12_ok 0 (by decide)) rfl rfl (Nat.le_of_ble_eq_true rfl) dX12_day_2 (fun H locs hP hD hS => ?_)
  obtain ⟨V1, hV1⟩ : ∃ z, z = up2 V 0 0 0 := ⟨_, rfl⟩
  have hP : va_P D vwCl (mw ad kk ks.1 V1 L) H := by rw [hV1]; exact hP
  have hD : va_D A (mw ad kk ks.1 V1 L) := by rw [hV1]; exact hD
  have hMV1 : rgd bM V1 := hMV.put hV1 (i_full _)
  have agV1 : agr [(0, 0), (0, 55)] [56, 57, 58, 59] V V1 := agV.up hV1 rfl
  refine lv_aload_n hx hb dX12_day_5 rfl (lv_at hl 0 rfl) ?_
  refine lv_iconst (v := 1) hx hb dX12_day_6 (by decide) ?_
  refine lv_iconst (v := (-1)) hx hb dX12_day_7 (by decide) ?_
  have r2 : Int32.toInt 1 = 1 := by decide
  have r3 : Int32.toInt (-1) = (-1) := by decide
  refine gA_int (gA_runV (As := [.int 1, .int (-1)]) (rest := []) (ci := 12) (q0 := 0) hx hb hml hown hg hP hD hK hS hA hnw hgk (s_scope3 l D ks H.size ad kk V1 L 1 (-1) hMV1 (by decide)) w2215 w2217 w125 w172 w2218 rfl rfl hdV_yX12_scope ⟨Nat.le_of_ble_eq_true rfl, Nat.le_of_ble_eq_true rfl⟩ rfl hl.1 rfl (Nat.le_of_ble_eq_true rfl) dX12_day_8 ⟨Nat.le_of_ble_eq_true rfl, Nat.le_of_ble_eq_true rfl⟩) hP hD hK hS hA (fun z4 u5 H locs w6 hP hD hK hS => ?_)
  obtain ⟨V9, L10⟩ := u5
  obtain ⟨hMV9, ajV9, axL10, rgz4, t7, t8⟩ := w6
  have axL10 : L = L10 := Eq.symm axL10
  subst axL10
  have hP : va_P D vwCl (mw ad kk ks.1 V9 L) H := hP
  have hD : va_D A (mw ad kk ks.1 V9 L) := hD
  have hMV9 : rgd bM V9 := hMV9
  have ajV9 : agr [(0, 55)] [56, 57, 58, 59] V1 V9 := ajV9
  have agV9 : agr [(0, 0), (0, 55)] [56, 57, 58, 59] V V9 := agV1.tr ajV9 (by decide) (by decide)
  have rgz4 : (-1) ≤ z4.toInt ∧ z4.toInt ≤ 39 := rgz4
  have t7 : ((V1 0 54).toInt = 1 ∧ (V1 0 55).toInt < 40) → z4.toInt = (V1 0 55).toInt ∧ OPM V1 V9 (Int32.toInt 1) (Int32.toInt (-1)) := t7
  have t8 : ¬ ((V1 0 54).toInt = 1 ∧ (V1 0 55).toInt < 40) → z4.toInt = -1 ∧ agr [] [] V1 V9 := t8
  have pq12 : (V1 0 54).toInt = ((V 0 54)).toInt := congrArg Int32.toInt (up2_k hV1 (by decide))
  have r13 : 0 ≤ ((V 0 54)).toInt ∧ ((V 0 54)).toInt ≤ 1 := hMV 0 54
  have pq14 : (V1 0 55).toInt = ((V 0 55)).toInt := congrArg Int32.toInt (up2_k hV1 (by decide))
  have r15 : 1 ≤ ((V 0 55)).toInt ∧ ((V 0 55)).toInt ≤ 40 := hMV 0 55
  have d1 : Int32.toInt 1 = 1 := by decide
  have d2 : Int32.toInt 2 = 2 := by decide
  have dm : Int32.toInt (-1) = -1 := by decide
  have dm11 : ((V 0 54).toInt = 1 ∧ (V 0 55).toInt < 40) → z4.toInt = (V 0 55).toInt ∧ OPM V V9 1 (-1) := fun h9 => by
    have h8 := t7 ⟨by have h1 := h9.1; omega, by have h2 := h9.2; omega⟩
    refine ⟨by omega, ?_⟩
    obtain ⟨n9, r1, r2, r3, r4, r5, r6, r7⟩ := h8.2
    rw [d1, dm] at r4
    exact ⟨n9, by omega, r2, r3, r4, fun s9 h7 => ⟨(r5 s9 h7).1.trans ((show agr [(0, 0)] [] V V1 from (agr.up agr.rf hV1 rfl)) 57 _ rfl), (r5 s9 h7).2.1.trans ((show agr [(0, 0)] [] V V1 from (agr.up agr.rf hV1 rfl)) 58 _ rfl), (r5 s9 h7).2.2.trans ((show agr [(0, 0)] [] V V1 from (agr.up agr.rf hV1 rfl)) 56 _ rfl)⟩, r6, fun j9 h7 => (r7 j9 h7).trans ((show agr [(0, 0)] [] V V1 from (agr.up agr.rf hV1 rfl)) 59 _ rfl)⟩
  have dn16 : ¬ ((V 0 54).toInt = 1 ∧ (V 0 55).toInt < 40) → z4.toInt = -1 ∧ agr [(0, 0)] [] V V9 := fun h9 => by
    have h8 := t8 (fun h7 => h9 ⟨by have h1 := h7.1; omega, by have h2 := h7.2; omega⟩)
    exact ⟨by omega, agr.tr (show agr [(0, 0)] [] V V1 from (show agr [(0, 0)] [] V V1 from (agr.up agr.rf hV1 rfl))) h8.2 (by decide) (by decide)⟩
  exact W.iret (v := z4) hx hb hr (fun t ht hW => ⟨⟨z4, (V9, L), rfl, ⟨hMV9, agV9, rfl, (show (-1) ≤ z4.toInt ∧ z4.toInt ≤ 39 from by (first | exact om_f252d5c70457 rgz4.1 rgz4.2 | omega)), dm11, dn16⟩, by rw [ht]; exact hP, va_K.moved hW.alike hK, hD⟩, hS.F ht⟩) hS.2.2 dX12_day_11
abbrev r_s_meal3 : Room := { frames := 1, cells := 0, slots := 0, locals := 23 }
abbrev q_s_meal3 (D : va_G) (ks : KS) (ad : Nat → Nat) (kk : Nat → ClassId) (V : Vf) (L : Lf) (p0 : Int32) (A : Nat → Prop) : Array Value → State → Outcome → State → Prop := va_Qi (fun (r : Int32) (u : Vf × Lf) => rgd bM u.1 ∧ agr [(0, 0), (0, 55)] [56, 57, 58, 59] V u.1 ∧ u.2 = L ∧ ((-1) ≤ r.toInt ∧ r.toInt ≤ 39) ∧ (((V 0 54).toInt = 1 ∧ (0 ≤ p0.toInt ∧ p0.toInt < (V 0 55).toInt ∧ (V 56 (Int32.toNatClampNeg p0)).toInt = 1) ∧ (V 57 (Int32.toNatClampNeg p0)).toInt = 1 ∧ (V 0 55).toInt < 40) → r.toInt = (V 0 55).toInt ∧ OPM V u.1 2 p0.toInt) ∧ (¬ ((V 0 54).toInt = 1 ∧ (0 ≤ p0.toInt ∧ p0.toInt < (V 0 55).toInt ∧ (V 56 (Int32.toNatClampNeg p0)).toInt = 1) ∧ (V 57 (Int32.toNatClampNeg p0)).toInt = 1 ∧ (V 0 55).toInt < 40) → r.toInt = -1 ∧ agr [(0, 0)] [] V u.1)) (fun u t => gq D A (mw ad kk ks.1 u.1 u.2) (mty kk) t) A
set_option maxHeartbeats 4000000 in
set_option maxRecDepth 100000 in
theorem s_meal3 (l : Launch) (D : va_G) (ks : KS) (sz : Nat) (ad : Nat → Nat) (kk : Nat → ClassId) (V : Vf) (L : Lf) (p0 : Int32) (hMV : rgd bM V)  : Met l yX12_meal (Cond.code yX12_meal cX12_meal 2 (some .int) :: GW) r_s_meal3 (va_Pc [.ref (ad 0), .int p0] (gp D ks (mw ad kk ks.1 V L) (mty kk) sz)) (q_s_meal3 D ks ad kk V L p0 (va_A (mw ad kk ks.1 V L) sz)) 0 0 (va_A (mw ad kk ks.1 V L) sz) := by
  refine g_met (q_s_meal3 D ks ad kk V L p0) (by decide) (Nat.le_of_ble_eq_true rfl) ?_
  intro p e s m below meth c A ls H locs hx hb hr hml hown hg hlocks hin hnw hgk hP hK hD hS hA hl
  have hown : s.vm.findClass RX12 = some m.cls := hown
  have hl : lv_has ls 2 [(0, .ref (ad 0)), (1, .int p0)] := hl
  have hP : va_P D vwCl (mw ad kk ks.1 V L) H := hP
  have hD : va_D A (mw ad kk ks.1 V L) := hD
  have hK : va_K D vwCl (mty kk) s := hK
  have agV : agr [(0, 0), (0, 55)] [56, 57, 58, 59] V V := agr.rf
  refine lv_aload_n hx hb dX12_meal_0 rfl (lv_at hl 0 rfl) ?_
  refine lv_iconst (v := 0) hx hb dX12_meal_1 (by decide) ?_
  refine va_put (D := D) (ci := 12) (v := .int 0) (ty := tyX12 0) (C := RX12) (T := TX12) (N := 100) hx hb hg inX12 tyX12 tyX12_ok nmX12 hown hK hP hD hS 0 rfl rfl 0 (by decide) (hg _ w1706) (fun _ h9 => h9) rfl (tyX12_ok 0 (by decide)) rfl rfl (Nat.le_of_ble_eq_true rfl) dX12_meal_2 (fun H locs hP hD hS => ?_)
  obtain ⟨V1, hV1⟩ : ∃ z, z = up2 V 0 0 0 := ⟨_, rfl⟩
  have hP : va_P D vwCl (mw ad kk ks.1 V1 L) H := by rw [hV1]; exact hP
  have hD : va_D A (mw ad kk ks.1 V1 L) := by rw [hV1]; exact hD
  have hMV1 : rgd bM V1 := hMV.put hV1 (i_full _)
  have agV1 : agr [(0, 0), (0, 55)] [56, 57, 58, 59] V V1 := agV.up hV1 rfl
  refine lv_aload_n hx hb dX12_meal_5 rfl (lv_at hl 0 rfl) ?_
  refine lv_iload_n hx hb dX12_meal_6 rfl (lv_at hl 1 rfl) ?_
  refine gA_int (gA_runV (As := [.int p0]) (rest := []) (ci := 12) (q0 := 0) hx hb hml hown hg hP hD hK hS hA hnw hgk (s_isScope3 l D ks H.size ad kk V1 L p0 hMV1 ) w2223 w2225 w126 w172 w2226 rfl rfl hdV_yX12_isScope ⟨Nat.le_of_ble_eq_true rfl, Nat.le_of_ble_eq_true rfl⟩ rfl hl.1 rfl (Nat.le_of_ble_eq_true rfl) dX12_meal_7 ⟨Nat.le_of_ble_eq_true rfl, Nat.le_of_ble_eq_true rfl⟩) hP hD hK hS hA (fun z2 u3 H locs w4 hP hD hK hS => ?_)
  obtain ⟨rgz2, t5⟩ := w4
  have rgz2 : 0 ≤ z2.toInt ∧ z2.toInt ≤ 1 := rgz2
  have t5 : (z2.toInt = 1 ∧ 0 ≤ p0.toInt ∧ p0.toInt < (V1 0 55).toInt ∧ (V1 56 (Int32.toNatClampNeg p0)).toInt = 1) ∨ (z2.toInt = 0 ∧ (p0.toInt < 0 ∨ (V1 0 55).toInt ≤ p0.toInt ∨ (V1 56 (Int32.toNatClampNeg p0)).toInt = 0)) := t5
  have pq6 : (V1 0 55).toInt = ((V 0 55)).toInt := congrArg Int32.toInt (up2_k hV1 (by decide))
  have r7 : 1 ≤ ((V 0 55)).toInt ∧ ((V 0 55)).toInt ≤ 40 := hMV 0 55
  refine lv_if_eq (tgt := 32) hx hb dX12_meal_10 (by decide) (fun c8 => ?_) (fun c8 => ?_)
  · skip
    have f9 : z2.toInt = 0 := b_eq rfl (by decide) c8
    refine lv_iconst (v := (-1)) hx hb dX12_meal_32 (by decide) ?_
    have pq10 : (V1 56 (Int32.toNatClampNeg p0)).toInt = ((V 56 (Int32.toNatClampNeg p0))).toInt := congrArg Int32.toInt (up2_o hV1 (by decide))
    have r11 : 0 ≤ ((V 56 (Int32.toNatClampNeg p0))).toInt ∧ ((V 56 (Int32.toNatClampNeg p0))).toInt ≤ 1 := hMV 56 (Int32.toNatClampNeg p0)
    have pq12 : (V1 57 (Int32.toNatClampNeg p0)).toInt = ((V 57 (Int32.toNatClampNeg p0))).toInt := congrArg Int32.toInt (up2_o hV1 (by decide))
    exact W.iret (v := (-1)) hx hb hr (fun t ht hW => ⟨⟨(-1), (V1, L), rfl, ⟨hMV1, agV1, rfl, (by decide), (fun h9 => by have h1 := h9.1; have h2 := h9.2.1.1; have h3 := h9.2.1.2.1; have h4 := h9.2.1.2.2; have h5 := h9.2.2.1; have h6 := h9.2.2.2; exfalso; omega), (fun _ => ⟨by decide, (show agr [(0, 0)] [] V V1 from (agr.up agr.rf hV1 rfl))⟩)⟩, by rw [ht]; exact hP, va_K.moved hW.alike hK, hD⟩, hS.F ht⟩) hS.2.2 dX12_meal_33
  · skip
    have f13 : z2.toInt ≠ 0 := b_neq rfl (by decide) c8
    refine lv_aload_n hx hb dX12_meal_13 rfl (lv_at hl 0 rfl) ?_
    refine va_get (D := D) (ci := 12) (v := .ref (ad 57)) (C := RX12) (T := TX12) (N := 100) hx hb hg inX12 hown hK hP 0 rfl rfl 57 (by decide) (hg _ w1763) (fun _ h9 => h9) rfl dX12_meal_14 ?_
    refine lv_iload_n hx hb dX12_meal_17 rfl (lv_at hl 1 rfl) ?_
    refine va_iald (D := D) (i := p0) hx hb hK hP 43 42 rfl rfl (i_in (a := p0.toInt) rfl (by omega)) dX12_meal_18 ?_
    refine g_top (v := (V 57 (Int32.toNatClampNeg p0))) (up2_o hV1 (by decide)) ?_
    refine lv_iconst (v := 1) hx hb dX12_meal_19 (by decide) ?_
    refine lv_icmp_ne (tgt := 32) hx hb dX12_meal_20 (by decide) (fun c14 => ?_) (fun c14 => ?_)
    · skip
      have f15 : ((V 57 (Int32.toNatClampNeg p0))).toInt ≠ 1 := b_neq rfl (by decide) c14
      refine lv_iconst (v := (-1)) hx hb dX12_meal_32 (by decide) ?_
      have pq16 : (V1 56 (Int32.toNatClampNeg p0)).toInt = ((V 56 (Int32.toNatClampNeg p0))).toInt := congrArg Int32.toInt (up2_o hV1 (by decide))
      have r17 : 0 ≤ ((V 56 (Int32.toNatClampNeg p0))).toInt ∧ ((V 56 (Int32.toNatClampNeg p0))).toInt ≤ 1 := hMV 56 (Int32.toNatClampNeg p0)
      have pq18 : (V1 57 (Int32.toNatClampNeg p0)).toInt = ((V 57 (Int32.toNatClampNeg p0))).toInt := congrArg Int32.toInt (up2_o hV1 (by decide))
      exact W.iret (v := (-1)) hx hb hr (fun t ht hW => ⟨⟨(-1), (V1, L), rfl, ⟨hMV1, agV1, rfl, (by decide), (fun h9 => by have h1 := h9.1; have h2 := h9.2.1.1; have h3 := h9.2.1.2.1; have h4 := h9.2.1.2.2; have h5 := h9.2.2.1; have h6 := h9.2.2.2; exfalso; omega), (fun _ => ⟨by decide, (show agr [(0, 0)] [] V V1 from (agr.up agr.rf hV1 rfl))⟩)⟩, by rw [ht]; exact hP, va_K.moved hW.alike hK, hD⟩, hS.F ht⟩) hS.2.2 dX12_meal_33
    · skip
      have f19 : ((V 57 (Int32.toNatClampNeg p0))).toInt = 1 := b_eq rfl (by decide) c14
      refine lv_aload_n hx hb dX12_meal_23 rfl (lv_at hl 0 rfl) ?_
      refine lv_iconst (v := 2) hx hb dX12_meal_24 (by decide) ?_
      refine lv_iload_n hx hb dX12_meal_25 rfl (lv_at hl 1 rfl) ?_
      have r20 : Int32.toInt 2 = 2 := by decide
      refine gA_int (gA_runV (As := [.int 2, .int p0]) (rest := []) (ci := 12) (q0 := 0) hx hb hml hown hg hP hD hK hS hA hnw hgk (s_scope3 l D ks H.size ad kk V1 L 2 p0 hMV1 (by omega)) w2215 w2217 w125 w172 w2218 rfl rfl hdV_yX12_scope ⟨Nat.le_of_ble_eq_true rfl, Nat.le_of_ble_eq_true rfl⟩ rfl hl.1 rfl (Nat.le_of_ble_eq_true rfl) dX12_meal_26 ⟨Nat.le_of_ble_eq_true rfl, Nat.le_of_ble_eq_true rfl⟩) hP hD hK hS hA (fun z21 u22 H locs w23 hP hD hK hS => ?_)
      obtain ⟨V26, L27⟩ := u22
      obtain ⟨hMV26, ajV26, axL27, rgz21, t24, t25⟩ := w23
      have axL27 : L = L27 := Eq.symm axL27
      subst axL27
      have hP : va_P D vwCl (mw ad kk ks.1 V26 L) H := hP
      have hD : va_D A (mw ad kk ks.1 V26 L) := hD
      have hMV26 : rgd bM V26 := hMV26
      have ajV26 : agr [(0, 55)] [56, 57, 58, 59] V1 V26 := ajV26
      have agV26 : agr [(0, 0), (0, 55)] [56, 57, 58, 59] V V26 := agV1.tr ajV26 (by decide) (by decide)
      have rgz21 : (-1) ≤ z21.toInt ∧ z21.toInt ≤ 39 := rgz21
      have t24 : ((V1 0 54).toInt = 1 ∧ (V1 0 55).toInt < 40) → z21.toInt = (V1 0 55).toInt ∧ OPM V1 V26 (Int32.toInt 2) p0.toInt := t24
      have t25 : ¬ ((V1 0 54).toInt = 1 ∧ (V1 0 55).toInt < 40) → z21.toInt = -1 ∧ agr [] [] V1 V26 := t25
      refine lv_goto (tgt := 33) hx hb dX12_meal_29 (by decide) ?_
      have pq29 : (V1 0 54).toInt = ((V 0 54)).toInt := congrArg Int32.toInt (up2_k hV1 (by decide))
      have r30 : 0 ≤ ((V 0 54)).toInt ∧ ((V 0 54)).toInt ≤ 1 := hMV 0 54
      have pq31 : (V1 56 (Int32.toNatClampNeg p0)).toInt = ((V 56 (Int32.toNatClampNeg p0))).toInt := congrArg Int32.toInt (up2_o hV1 (by decide))
      have r32 : 0 ≤ ((V 56 (Int32.toNatClampNeg p0))).toInt ∧ ((V 56 (Int32.toNatClampNeg p0))).toInt ≤ 1 := hMV 56 (Int32.toNatClampNeg p0)
      have pq33 : (V1 57 (Int32.toNatClampNeg p0)).toInt = ((V 57 (Int32.toNatClampNeg p0))).toInt := congrArg Int32.toInt (up2_o hV1 (by decide))
      have d1 : Int32.toInt 1 = 1 := by decide
      have d2 : Int32.toInt 2 = 2 := by decide
      have dm : Int32.toInt (-1) = -1 := by decide
      have dm28 : ((V 0 54).toInt = 1 ∧ (0 ≤ p0.toInt ∧ p0.toInt < (V 0 55).toInt ∧ (V 56 (Int32.toNatClampNeg p0)).toInt = 1) ∧ (V 57 (Int32.toNatClampNeg p0)).toInt = 1 ∧ (V 0 55).toInt < 40) → z21.toInt = (V 0 55).toInt ∧ OPM V V26 2 p0.toInt := fun h9 => by
        have h8 := t24 ⟨by have h1 := h9.1; omega, by have h2 := h9.2.2.2; omega⟩
        refine ⟨by omega, ?_⟩
        obtain ⟨n9, r1, r2, r3, r4, r5, r6, r7⟩ := h8.2
        rw [d2] at r4
        exact ⟨n9, by omega, r2, r3, r4, fun s9 h7 => ⟨(r5 s9 h7).1.trans ((show agr [(0, 0)] [] V V1 from (agr.up agr.rf hV1 rfl)) 57 _ rfl), (r5 s9 h7).2.1.trans ((show agr [(0, 0)] [] V V1 from (agr.up agr.rf hV1 rfl)) 58 _ rfl), (r5 s9 h7).2.2.trans ((show agr [(0, 0)] [] V V1 from (agr.up agr.rf hV1 rfl)) 56 _ rfl)⟩, r6, fun j9 h7 => (r7 j9 h7).trans ((show agr [(0, 0)] [] V V1 from (agr.up agr.rf hV1 rfl)) 59 _ rfl)⟩
      have dn34 : ¬ ((V 0 54).toInt = 1 ∧ (0 ≤ p0.toInt ∧ p0.toInt < (V 0 55).toInt ∧ (V 56 (Int32.toNatClampNeg p0)).toInt = 1) ∧ (V 57 (Int32.toNatClampNeg p0)).toInt = 1 ∧ (V 0 55).toInt < 40) → z21.toInt = -1 ∧ agr [(0, 0)] [] V V26 := fun h9 => by
        have h8 := t25 (fun h7 => h9 ⟨by have h1 := h7.1; omega, ⟨by omega, by omega, by omega⟩, by omega, by have h2 := h7.2; omega⟩)
        exact ⟨by omega, agr.tr (show agr [(0, 0)] [] V V1 from (show agr [(0, 0)] [] V V1 from (agr.up agr.rf hV1 rfl))) h8.2 (by decide) (by decide)⟩
      exact W.iret (v := z21) hx hb hr (fun t ht hW => ⟨⟨z21, (V26, L), rfl, ⟨hMV26, agV26, rfl, (show (-1) ≤ z21.toInt ∧ z21.toInt ≤ 39 from by (first | exact om_f252d5c70457 rgz21.1 rgz21.2 | omega)), dm28, dn34⟩, by rw [ht]; exact hP, va_K.moved hW.alike hK, hD⟩, hS.F ht⟩) hS.2.2 dX12_meal_33
