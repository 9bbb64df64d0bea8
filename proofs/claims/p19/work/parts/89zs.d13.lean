/-! the reference's calls beside the machine: all of them, for every depth -/
def KD (l : Launch) (D : va_G) (ks : KS) (d1 d2 : Nat) : Prop := K_s_callsD l D ks d1 d2 ∧ (∀ d3, K_s_aroundsD l D ks d1 d2 d3) ∧ K_s_failingsD l D ks d1 d2 ∧ K_s_getsWholeD l D ks d1 d2 ∧ K_s_joinsAllD l D ks d1 d2 ∧ K_s_closesD l D ks d1 d2
theorem KD_step {l : Launch} {D : va_G} {ks : KS} {d1 d2 : Nat} (h1 : ∀ d9, d1 = d9 + 1 → KD l D ks d9 d2) (h2 : ∀ d9, d2 = d9 + 1 → KD l D ks d1 d9) : KD l D ks d1 d2 := by
  have k1 : K_s_callsD l D ks d1 d2 := s_callsD (fun d9 h => (h2 d9 h).2.1 12) (fun d9 h => (h2 d9 h).2.2.1)
  have k2 : K_s_ofLateD l D ks d1 d2 := s_ofLateD (fun d9 h => (h2 d9 h).2.2.2.1) k1
  have k3 : K_s_ofNeedD l D ks d1 d2 := s_ofNeedD k1 k2
  have k4 : K_s_worksD l D ks d1 d2 := s_worksD (s_wA0D k3)
  have k5 : K_s_insideD l D ks d1 d2 := s_insideD k4
  have ka : ∀ d3, K_s_aroundsD l D ks d1 d2 d3 := by
    intro d3
    induction d3 with
    | zero => exact s_aroundsD k5 (fun d8 h => absurd h (by omega))
    | succ d ih =>
      refine s_aroundsD k5 (fun d8 h => ?_)
      have e : d8 = d := by omega
      subst e
      exact s_wA1D k3 ih
  have k6 : K_s_closesD l D ks d1 d2 := s_closesD k4
  have k7 : K_s_getsD l D ks d1 d2 := s_getsD (s_makesD (fun d9 h => (h1 d9 h).2.2.2.2.1) k4)
  exact ⟨k1, ka, s_failingsD k4, s_getsWholeD k7 k6, s_joinsAllD k7, k6⟩
theorem KD_all {l : Launch} {D : va_G} {ks : KS} : ∀ n d1 d2, d1 + d2 ≤ n → KD l D ks d1 d2
  | 0, d1, d2, h => KD_step (fun d9 h9 => absurd h9 (by omega)) (fun d9 h9 => absurd h9 (by omega))
  | n + 1, d1, d2, h => KD_step (fun d9 h9 => KD_all n d9 d2 (by omega)) (fun d9 h9 => KD_all n d1 d9 (by omega))
/-- what a get, a call comes to -/
def GEo (B : Bk) (x : MS) (W : Vf) (r no : Int) : Prop := ∃ sg t k a, TRs B x (mV W sg t k, a, []) ∧ ((sg = 1 ∧ r = a.toInt ∧ (W 0 71).toInt = 0 ∧ (W 0 72).toInt = 0) ∨ (sg = 2 ∧ r = no ∧ (W 0 71).toInt = t ∧ (W 0 72).toInt = k ∧ 0 ≤ t) ∨ (sg = 3 ∧ r = no ∧ (W 0 71).toInt = 0 ∧ (W 0 72).toInt = 0))
def mvB (fs : List (Nat × Nat)) (cs : List Nat) : Bool := fs.all (fun y => y.1 == 0 && !(([(0, 68), (0, 60), (0, 65), (0, 73)] : List (Nat × Nat)).contains y)) && cs.all (fun c => c != 0 && !(mvK.contains c))
theorem mvB_f {L : List (Nat × Nat)} {cs : List Nat} (q : mvB L cs = true) {k : Nat} (h : ([(0, 68), (0, 60), (0, 65), (0, 73)] : List (Nat × Nat)).contains (0, k) = true) : wrL L cs 0 k = false := by
  unfold mvB at q
  rw [Bool.and_eq_true, List.all_eq_true, List.all_eq_true] at q
  unfold wrL
  rw [Bool.or_eq_false_iff]
  refine ⟨?_, ?_⟩
  · rw [← Bool.not_eq_true]
    intro z
    have y := q.1 _ (List.contains_iff_mem.mp z)
    rw [Bool.and_eq_true, h] at y
    exact absurd y.2 (by decide)
  · rw [← Bool.not_eq_true]
    intro z
    have y := q.2 _ (List.contains_iff_mem.mp z)
    rw [Bool.and_eq_true] at y
    exact absurd y.1 (by decide)
theorem mvB_k {L : List (Nat × Nat)} {cs : List Nat} (q : mvB L cs = true) {c k : Nat} (h0 : c ≠ 0) (h : mvK.contains c = true) : wrL L cs c k = false := by
  unfold mvB at q
  rw [Bool.and_eq_true, List.all_eq_true, List.all_eq_true] at q
  unfold wrL
  rw [Bool.or_eq_false_iff]
  refine ⟨?_, ?_⟩
  · rw [← Bool.not_eq_true]
    intro z
    have y := q.1 _ (List.contains_iff_mem.mp z)
    rw [Bool.and_eq_true] at y
    exact h0 (eq_of_beq y.1)
  · rw [← Bool.not_eq_true]
    intro z
    have y := q.2 _ (List.contains_iff_mem.mp z)
    rw [Bool.and_eq_true, h] at y
    exact absurd y.2 (by decide)
theorem mV_beg {L : List (Nat × Nat)} {cs : List Nat} {V W : Vf} {sg t k : Int} (g : agr L cs V W) (q : mvB L cs = true) (e1 : (W 0 69).toInt = 0) (e4 : (W 0 95).toInt = (V 0 95).toInt) : mV W sg t k = mU (mV V sg t k) 0 1 0 := by
  refine mm_ext (fun j => ?_) (fun y j => ?_)
  · rcases (show j = 0 ∨ j = 1 ∨ j = 2 ∨ j = 3 ∨ j = 4 ∨ j = 5 ∨ j = 6 ∨ j = 7 ∨ j = 8 ∨ j = 9 ∨ 10 ≤ j from by omega) with e10 | e10 | e10 | e10 | e10 | e10 | e10 | e10 | e10 | e10 | e10
    · subst e10
      rw [mU_o _ _ (by omega), mV_00, mV_00]
      exact congrArg Int32.toInt (g 0 68 (mvB_f q rfl))
    · subst e10
      rw [mU_s, mV_01]
      exact e1
    · subst e10
      rw [mU_o _ _ (by omega), mV_02, mV_02]
      exact congrArg Int32.toInt (g 0 60 (mvB_f q rfl))
    · subst e10
      rw [mU_o _ _ (by omega), mV_03, mV_03]
      exact congrArg Int32.toInt (g 0 65 (mvB_f q rfl))
    · subst e10
      rw [mU_o _ _ (by omega), mV_04, mV_04]
      exact e4
    · subst e10
      rw [mU_o _ _ (by omega), mV_05, mV_05]
      exact congrArg Int32.toInt (g 0 73 (mvB_f q rfl))
    · subst e10
      rw [mU_o _ _ (by omega), mV_06, mV_06]
    · subst e10
      rw [mU_o _ _ (by omega), mV_07, mV_07]
    · subst e10
      rw [mU_o _ _ (by omega), mV_08, mV_08]
    · subst e10
      rw [mU_o _ _ (by omega), mV_09, mV_09]
    · obtain ⟨y10, rfl⟩ : ∃ y, j = y + 10 := ⟨j - 10, by omega⟩
      rw [mU_o _ _ (by omega), mV_0x, mV_0x]
  · rw [mU_o _ _ (by omega)]
    by_cases hy : y < 13
    · rw [mV_row hy, mV_row hy]
      exact congrArg Int32.toInt (g _ _ (mvB_k q (mvC_k hy).1 (mvC_k hy).2))
    · rw [mV_big (by omega), mV_big (by omega)]
theorem th.ga {fs : List (Nat × Nat)} {cs : List Nat} {V W : Vf} {c : Nat} (h : th W c) (a : agr fs cs V W) (q : thC fs cs) : th V c := by
  have e : nwh W = nwh V := by unfold nwh; rw [a 0 11 q.1]
  unfold th at h ⊢
  rw [e, a _ _ (q.2.2.1 _), a _ _ (q.2.2.2.1 _), a _ _ (q.2.1 _), a _ _ (q.2.2.2.2.1 _)] at h
  exact h


abbrev r_s_callsDT : Room := { frames := 1608, cells := 0, slots := 0, locals := 40320 }
abbrev q_s_callsDT (D : va_G) (ks : KS) (ad : Nat → Nat) (kk : Nat → ClassId) (V : Vf) (L : Lf) (p0 : Int32) (p1 : Int32) (p2 : Int32) (p3 : Int32) (gB : Bk) (grk : Nat → Nat) (gr : List Fr) (ga : Int32) (gs : Int) (gt : Int) (gu : Int) (glv : Int) (go : Int) (gc : Int) (gsc : Int) (gme : Int) (A : Nat → Prop) : Array Value → State → Outcome → State → Prop := q_s_callsD D ks ad kk V L p0 p1 p2 p3 gB grk gr ga gs gt gu glv go gc gsc gme A
theorem s_callsDT (l : Launch) (D : va_G) (ks : KS) (sz : Nat) (ad : Nat → Nat) (kk : Nat → ClassId) (V : Vf) (L : Lf) (p0 : Int32) (p1 : Int32) (p2 : Int32) (p3 : Int32) (gB : Bk) (grk : Nat → Nat) (gr : List Fr) (ga : Int32) (gs : Int) (gt : Int) (gu : Int) (glv : Int) (go : Int) (gc : Int) (gsc : Int) (gme : Int) (hMV : rgd bM V) (rg_p0 : 0 ≤ p0.toInt ∧ p0.toInt ≤ 299) (rg_p1 : 0 ≤ p1.toInt ∧ p1.toInt ≤ 19) (rg_p2 : 0 ≤ p2.toInt ∧ p2.toInt ≤ 39) (rt : RT V) (n1 : (V 0 65).toInt ≤ (V 0 60).toInt) (n2 : (V 0 95).toInt ≤ (V 0 65).toInt) (n3 : (V 0 73).toInt + (V 0 95).toInt - (V 0 65).toInt ≤ 999000) (n4 : (V 0 76).toInt - (V 0 69).toInt - (V 0 73).toInt ≤ 1000000000) (bk : BKm V gB) (br : BKr gB grk) (rj : RJm V gB) (hs9 : gs = 2 → 0 ≤ gt ∧ gt ≤ 10000) (hl9 : ((gr.length : Nat) : Int) ≤ 28 * (V 0 93).toInt + 28) (hp9 : ((totP gr : Nat) : Int) ≤ 84 * (V 0 93).toInt + 84) (oq1 : p0.toInt < (V 0 60).toInt) (n7 : (V 0 98).toInt + 400 * 10 ≤ 19000) (st9 : 1 ≤ (V 63 (Int32.toNatClampNeg p0)).toInt) (zl9 : (V 0 93).toInt + 1 = glv) (zo9 : p0.toInt = go) (zc9 : (V 61 (Int32.toNatClampNeg p0)).toInt = gc) (zs9 : p2.toInt = gsc) (zm9 : p1.toInt = gme) : Met l yX12_calls (Cond.code yX12_calls cX12_calls 6 (some .int) :: GW) r_s_callsDT (va_Pc [.ref (ad 0), .int p0, .int p1, .int p2, .int p3] (gp D ks (mw ad kk ks.1 V L) (mty kk) sz)) (q_s_callsDT D ks ad kk V L p0 p1 p2 p3 gB grk gr ga gs gt gu glv go gc gsc gme (va_A (mw ad kk ks.1 V L) sz)) 0 0 (va_A (mw ad kk ks.1 V L) sz) :=
  (KD_all (l := l) (D := D) (ks := ks) 310 300 10 (by omega)).1 sz ad kk V L p0 p1 p2 p3 gB grk gr ga gs gt gu glv go gc gsc gme hMV rg_p0 rg_p1 rg_p2 rt n1 n2 n3 n4 (by have h9 : 0 ≤ (V 0 60).toInt := (hMV 0 60).1; omega) (by have h9 : 0 ≤ (V 0 93).toInt := (hMV 0 93).1; omega) bk br rj hs9 hl9 hp9 oq1 (by omega) st9 zl9 zo9 zc9 zs9 zm9

abbrev r_s_getsWholeDT : Room := { frames := 1616, cells := 0, slots := 0, locals := 40620 }
abbrev q_s_getsWholeDT (D : va_G) (ks : KS) (ad : Nat → Nat) (kk : Nat → ClassId) (V : Vf) (L : Lf) (p0 : Int32) (p1 : Int32) (gB : Bk) (grk : Nat → Nat) (gr : List Fr) (ga : Int32) (gs : Int) (gt : Int) (gu : Int) (glv : Int) (go : Int) (gc : Int) (gsc : Int) (gme : Int) (gmk : Int) (A : Nat → Prop) : Array Value → State → Outcome → State → Prop := q_s_getsWholeD D ks ad kk V L p0 p1 gB grk gr ga gs gt gu glv go gc gsc gme gmk A
theorem s_getsWholeDT (l : Launch) (D : va_G) (ks : KS) (sz : Nat) (ad : Nat → Nat) (kk : Nat → ClassId) (V : Vf) (L : Lf) (p0 : Int32) (p1 : Int32) (gB : Bk) (grk : Nat → Nat) (gr : List Fr) (ga : Int32) (gs : Int) (gt : Int) (gu : Int) (glv : Int) (go : Int) (gc : Int) (gsc : Int) (gme : Int) (gmk : Int) (hMV : rgd bM V) (rg_p0 : 0 ≤ p0.toInt ∧ p0.toInt ≤ 23) (rg_p1 : 0 ≤ p1.toInt ∧ p1.toInt ≤ 39) (rt : RT V) (n1 : (V 0 65).toInt ≤ (V 0 60).toInt) (n2 : (V 0 95).toInt ≤ (V 0 65).toInt) (n3 : (V 0 73).toInt + (V 0 95).toInt - (V 0 65).toInt ≤ 999000) (n4 : (V 0 76).toInt - (V 0 69).toInt - (V 0 73).toInt ≤ 1000000000) (bk : BKm V gB) (br : BKr gB grk) (rj : RJm V gB) (hs9 : gs = 2 → 0 ≤ gt ∧ gt ≤ 10000) (hl9 : ((gr.length : Nat) : Int) ≤ 28 * (V 0 93).toInt) (hp9 : ((totP gr : Nat) : Int) ≤ 84 * (V 0 93).toInt) (n7 : (V 0 98).toInt + 400 * 10 + 30 ≤ 19000) (tq : th V (Int32.toNatClampNeg p0)) (zl9 : (V 0 93).toInt = glv) (zc9 : p0.toInt = gc) (zs9 : p1.toInt = gsc) (zk9 : (V 0 95).toInt = gmk) : Met l yX12_getsWhole (Cond.code yX12_getsWhole cX12_getsWhole 8 (some .int) :: GW) r_s_getsWholeDT (va_Pc [.ref (ad 0), .int p0, .int p1] (gp D ks (mw ad kk ks.1 V L) (mty kk) sz)) (q_s_getsWholeDT D ks ad kk V L p0 p1 gB grk gr ga gs gt gu glv go gc gsc gme gmk (va_A (mw ad kk ks.1 V L) sz)) 0 0 (va_A (mw ad kk ks.1 V L) sz) :=
  (KD_all (l := l) (D := D) (ks := ks) 310 300 10 (by omega)).2.2.2.1 sz ad kk V L p0 p1 gB grk gr ga gs gt gu glv go gc gsc gme gmk hMV rg_p0 rg_p1 rt n1 n2 n3 n4 (by have h9 : 0 ≤ (V 0 60).toInt := (hMV 0 60).1; omega) (by have h9 : 0 ≤ (V 0 93).toInt := (hMV 0 93).1; omega) bk br rj hs9 hl9 hp9 (by omega) tq zl9 zc9 zs9 zk9

abbrev r_s_closesDT : Room := { frames := 1613, cells := 0, slots := 0, locals := 40500 }
abbrev q_s_closesDT (D : va_G) (ks : KS) (ad : Nat → Nat) (kk : Nat → ClassId) (V : Vf) (L : Lf) (p0 : Int32) (gB : Bk) (grk : Nat → Nat) (gr : List Fr) (ga : Int32) (gs : Int) (gt : Int) (gu : Int) (glv : Int) (go : Int) (gc : Int) (gsc : Int) (gme : Int) (A : Nat → Prop) : Array Value → State → Outcome → State → Prop := q_s_closesD D ks ad kk V L p0 gB grk gr ga gs gt gu glv go gc gsc gme A
theorem s_closesDT (l : Launch) (D : va_G) (ks : KS) (sz : Nat) (ad : Nat → Nat) (kk : Nat → ClassId) (V : Vf) (L : Lf) (p0 : Int32) (gB : Bk) (grk : Nat → Nat) (gr : List Fr) (ga : Int32) (gs : Int) (gt : Int) (gu : Int) (glv : Int) (go : Int) (gc : Int) (gsc : Int) (gme : Int) (hMV : rgd bM V) (rg_p0 : 0 ≤ p0.toInt ∧ p0.toInt ≤ 299) (rt : RT V) (n1 : (V 0 65).toInt ≤ (V 0 60).toInt) (n2 : (V 0 95).toInt ≤ (V 0 65).toInt) (n3 : (V 0 73).toInt + (V 0 95).toInt - (V 0 65).toInt ≤ 999000) (n4 : (V 0 76).toInt - (V 0 69).toInt - (V 0 73).toInt ≤ 1000000000) (bk : BKm V gB) (br : BKr gB grk) (rj : RJm V gB) (hl9 : ((gr.length : Nat) : Int) ≤ 28 * (V 0 93).toInt + 25) (hp9 : ((totP gr : Nat) : Int) ≤ 84 * (V 0 93).toInt + 56) (oq1 : p0.toInt < (V 0 60).toInt) (n7 : (V 0 98).toInt + 400 * 10 + 30 ≤ 19000) (st1 : 1 ≤ (V 63 (Int32.toNatClampNeg p0)).toInt) (zl9 : (V 0 93).toInt = glv) (zo9 : p0.toInt = go) (zc9 : (V 61 (Int32.toNatClampNeg p0)).toInt = gc) (zs9 : (V 62 (Int32.toNatClampNeg p0)).toInt = gsc) (cm9 : CMPo V gB (Int32.toNatClampNeg p0)) : Met l yX12_closes (Cond.code yX12_closes cX12_closes 4 (some .boolean) :: GW) r_s_closesDT (va_Pc [.ref (ad 0), .int p0] (gp D ks (mw ad kk ks.1 V L) (mty kk) sz)) (q_s_closesDT D ks ad kk V L p0 gB grk gr ga gs gt gu glv go gc gsc gme (va_A (mw ad kk ks.1 V L) sz)) 0 0 (va_A (mw ad kk ks.1 V L) sz) :=
  (KD_all (l := l) (D := D) (ks := ks) 310 300 10 (by omega)).2.2.2.2.2 sz ad kk V L p0 gB grk gr ga gs gt gu glv go gc gsc gme hMV rg_p0 rt n1 n2 n3 n4 (by have h9 : 0 ≤ (V 0 60).toInt := (hMV 0 60).1; omega) (by have h9 : 0 ≤ (V 0 93).toInt := (hMV 0 93).1; omega) bk br rj hl9 hp9 oq1 (by omega) st1 zl9 zo9 zc9 zs9 cm9

abbrev r_s_isScope3 : Room := { frames := 0, cells := 0, slots := 0, locals := 0 }
abbrev q_s_isScope3 (D : va_G) (ks : KS) (ad : Nat → Nat) (kk : Nat → ClassId) (V : Vf) (L : Lf) (p0 : Int32) (A : Nat → Prop) : Array Value → State → Outcome → State → Prop := va_Qi (fun (r : Int32) (_ : Unit) => (0 ≤ r.toInt ∧ r.toInt ≤ 1) ∧ ((r.toInt = 1 ∧ 0 ≤ p0.toInt ∧ p0.toInt < (V 0 55).toInt ∧ (V 56 (Int32.toNatClampNeg p0)).toInt = 1) ∨ (r.toInt = 0 ∧ (p0.toInt < 0 ∨ (V 0 55).toInt ≤ p0.toInt ∨ (V 56 (Int32.toNatClampNeg p0)).toInt = 0)))) (fun _ t => gq D A (mw ad kk ks.1 V L) (mty kk) t) A
set_option maxHeartbeats 4000000 in
set_option maxRecDepth 100000 in
theorem s_isScope3 (l : Launch) (D : va_G) (ks : KS) (sz : Nat) (ad : Nat → Nat) (kk : Nat → ClassId) (V : Vf) (L : Lf) (p0 : Int32) (hMV : rgd bM V)  : Met l yX12_isScope (Cond.code yX12_isScope cX12_isScope 2 (some .boolean) :: GW) r_s_isScope3 (va_Pc [.ref (ad 0), .int p0] (gp D ks (mw ad kk ks.1 V L) (mty kk) sz)) (q_s_isScope3 D ks ad kk V L p0 (va_A (mw ad kk ks.1 V L) sz)) 0 0 (va_A (mw ad kk ks.1 V L) sz) := by
  refine g_met (q_s_isScope3 D ks ad kk V L p0) (by decide) (Nat.le_of_ble_eq_true rfl) ?_
  intro p e s m below meth c A ls H locs hx hb hr hml hown hg hlocks hin hnw hgk hP hK hD hS hA hl
  have hown : s.vm.findClass RX12 = some m.cls := hown
  have hl : lv_has ls 2 [(0, .ref (ad 0)), (1, .int p0)] := hl
  have hP : va_P D vwCl (mw ad kk ks.1 V L) H := hP
  have hD : va_D A (mw ad kk ks.1 V L) := hD
  have hK : va_K D vwCl (mty kk) s := hK
  refine lv_iload_n hx hb dX12_isScope_0 rfl (lv_at hl 1 rfl) ?_
  refine lv_if_lt (tgt := 25) hx hb dX12_isScope_1 (by decide) (fun c1 => ?_) (fun c1 => ?_)
  · skip
    have f2 : p0.toInt < 0 := b_lt rfl (by decide) c1
    refine lv_iconst (v := 0) hx hb dX12_isScope_25 (by decide) ?_
    have r3 : 1 ≤ ((V 0 55)).toInt ∧ ((V 0 55)).toInt ≤ 40 := hMV 0 55
    have r4 : 0 ≤ ((V 56 (Int32.toNatClampNeg p0))).toInt ∧ ((V 56 (Int32.toNatClampNeg p0))).toInt ≤ 1 := hMV 56 (Int32.toNatClampNeg p0)
    exact W.zret (v := 0) hx hb hr rfl (fun t ht hW => ⟨⟨0, (), rfl, ⟨(by decide), (show (0 = 1 ∧ 0 ≤ p0.toInt ∧ p0.toInt < (V 0 55).toInt ∧ (V 56 (Int32.toNatClampNeg p0)).toInt = 1) ∨ (0 = 0 ∧ (p0.toInt < 0 ∨ (V 0 55).toInt ≤ p0.toInt ∨ (V 56 (Int32.toNatClampNeg p0)).toInt = 0)) from by omega)⟩, by rw [ht]; exact hP, va_K.moved hW.alike hK, hD⟩, hS.F ht⟩) hS.2.2 dX12_isScope_26
  · skip
    have f5 : 0 ≤ p0.toInt := b_nlt rfl (by decide) c1
    refine lv_iload_n hx hb dX12_isScope_4 rfl (lv_at hl 1 rfl) ?_
    refine lv_aload_n hx hb dX12_isScope_5 rfl (lv_at hl 0 rfl) ?_
    refine va_get (D := D) (ci := 12) (v := .int (V 0 55)) (C := RX12) (T := TX12) (N := 100) hx hb hg inX12 hown hK hP 0 rfl rfl 55 (by decide) (hg _ w1761) (fun _ h9 => h9) rfl dX12_isScope_6 ?_
    have r6 : 1 ≤ ((V 0 55)).toInt ∧ ((V 0 55)).toInt ≤ 40 := hMV 0 55
    refine lv_icmp_ge (tgt := 25) hx hb dX12_isScope_9 (by decide) (fun c7 => ?_) (fun c7 => ?_)
    · skip
      have f8 : ((V 0 55)).toInt ≤ p0.toInt := b_le rfl rfl c7
      refine lv_iconst (v := 0) hx hb dX12_isScope_25 (by decide) ?_
      have r9 : 0 ≤ ((V 56 (Int32.toNatClampNeg p0))).toInt ∧ ((V 56 (Int32.toNatClampNeg p0))).toInt ≤ 1 := hMV 56 (Int32.toNatClampNeg p0)
      exact W.zret (v := 0) hx hb hr rfl (fun t ht hW => ⟨⟨0, (), rfl, ⟨(by decide), (show (0 = 1 ∧ 0 ≤ p0.toInt ∧ p0.toInt < (V 0 55).toInt ∧ (V 56 (Int32.toNatClampNeg p0)).toInt = 1) ∨ (0 = 0 ∧ (p0.toInt < 0 ∨ (V 0 55).toInt ≤ p0.toInt ∨ (V 56 (Int32.toNatClampNeg p0)).toInt = 0)) from by omega)⟩, by rw [ht]; exact hP, va_K.moved hW.alike hK, hD⟩, hS.F ht⟩) hS.2.2 dX12_isScope_26
    · skip
      have f10 : p0.toInt < ((V 0 55)).toInt := b_nle rfl rfl c7
      refine lv_aload_n hx hb dX12_isScope_12 rfl (lv_at hl 0 rfl) ?_
      refine va_get (D := D) (ci := 12) (v := .ref (ad 56)) (C := RX12) (T := TX12) (N := 100) hx hb hg inX12 hown hK hP 0 rfl rfl 56 (by decide) (hg _ w1762) (fun _ h9 => h9) rfl dX12_isScope_13 ?_
      refine lv_iload_n hx hb dX12_isScope_16 rfl (lv_at hl 1 rfl) ?_
      refine va_zald (D := D) (i := p0) hx hb hK hP 42 41 rfl rfl (i_in (a := p0.toInt) rfl (by (first | exact om_8c1a0720d08e f5 r6.2 f10 | omega))) dX12_isScope_17 ?_
      have r11 : 0 ≤ ((V 56 (Int32.toNatClampNeg p0))).toInt ∧ ((V 56 (Int32.toNatClampNeg p0))).toInt ≤ 1 := hMV 56 (Int32.toNatClampNeg p0)
      refine lv_if_eq (tgt := 25) hx hb dX12_isScope_18 (by decide) (fun c12 => ?_) (fun c12 => ?_)
      · skip
        have f13 : ((V 56 (Int32.toNatClampNeg p0))).toInt = 0 := b_eq rfl (by decide) c12
        refine lv_iconst (v := 0) hx hb dX12_isScope_25 (by decide) ?_
        exact W.zret (v := 0) hx hb hr rfl (fun t ht hW => ⟨⟨0, (), rfl, ⟨(by decide), (show (0 = 1 ∧ 0 ≤ p0.toInt ∧ p0.toInt < (V 0 55).toInt ∧ (V 56 (Int32.toNatClampNeg p0)).toInt = 1) ∨ (0 = 0 ∧ (p0.toInt < 0 ∨ (V 0 55).toInt ≤ p0.toInt ∨ (V 56 (Int32.toNatClampNeg p0)).toInt = 0)) from by omega)⟩, by rw [ht]; exact hP, va_K.moved hW.alike hK, hD⟩, hS.F ht⟩) hS.2.2 dX12_isScope_26
      · skip
        have f14 : ((V 56 (Int32.toNatClampNeg p0))).toInt ≠ 0 := b_neq rfl (by decide) c12
        refine lv_iconst (v := 1) hx hb dX12_isScope_21 (by decide) ?_
        refine lv_goto (tgt := 26) hx hb dX12_isScope_22 (by decide) ?_
        exact W.zret (v := 1) hx hb hr rfl (fun t ht hW => ⟨⟨1, (), rfl, ⟨(by decide), (show (1 = 1 ∧ 0 ≤ p0.toInt ∧ p0.toInt < (V 0 55).toInt ∧ (V 56 (Int32.toNatClampNeg p0)).toInt = 1) ∨ (1 = 0 ∧ (p0.toInt < 0 ∨ (V 0 55).toInt ≤ p0.toInt ∨ (V 56 (Int32.toNatClampNeg p0)).toInt = 0)) from by omega)⟩, by rw [ht]; exact hP, va_K.moved hW.alike hK, hD⟩, hS.F ht⟩) hS.2.2 dX12_isScope_26
abbrev r_s_begins3 : Room := { frames := 0, cells := 0, slots := 0, locals := 0 }
abbrev q_s_begins3 (D : va_G) (ks : KS) (ad : Nat → Nat) (kk : Nat → ClassId) (V : Vf) (L : Lf) (A : Nat → Prop) : Array Value → State → Outcome → State → Prop := va_Qv (fun (u : Vf × Lf) => rgd bM u.1 ∧ agr [(0, 69), (0, 71), (0, 72), (0, 93), (0, 95), (0, 98)] [] V u.1 ∧ u.2 = L ∧ ((u.1 0 69).toInt = 0) ∧ ((u.1 0 93).toInt = 0) ∧ ((u.1 0 98).toInt = 0) ∧ ((u.1 0 95).toInt = 0) ∧ ((u.1 0 71).toInt = 0 ∧ (u.1 0 72).toInt = 0)) (fun u t => gq D A (mw ad kk ks.1 u.1 u.2) (mty kk) t) A
set_option maxHeartbeats 4000000 in
set_option maxRecDepth 100000 in
theorem s_begins3 (l : Launch) (D : va_G) (ks : KS) (sz : Nat) (ad : Nat → Nat) (kk : Nat → ClassId) (V : Vf) (L : Lf)  (hMV : rgd bM V)  : Met l yX12_begins_ (Cond.code yX12_begins_ cX12_begins_ 1 none :: GW) r_s_begins3 (va_Pc [.ref (ad 0)] (gp D ks (mw ad kk ks.1 V L) (mty kk) sz)) (q_s_begins3 D ks ad kk V L  (va_A (mw ad kk ks.1 V L) sz)) 0 0 (va_A (mw ad kk ks.1 V L) sz) := by
  refine g_met (q_s_begins3 D ks ad kk V L) (by decide) (Nat.le_of_ble_eq_true rfl) ?_
  intro p e s m below meth c A ls H locs hx hb hr hml hown hg hlocks hin hnw hgk hP hK hD hS hA hl
  have hown : s.vm.findClass RX12 = some m.cls := hown
  have hl : lv_has ls 1 [(0, .ref (ad 0))] := hl
  have hP : va_P D vwCl (mw ad kk ks.1 V L) H := hP
  have hD : va_D A (mw ad kk ks.1 V L) := hD
  have hK : va_K D vwCl (mty kk) s := hK
  have agV : agr [(0, 69), (0, 71), (0, 72), (0, 93), (0, 95), (0, 98)] [] V V := agr.rf
  refine lv_aload_n hx hb dX12_begins__0 rfl (lv_at hl 0 rfl) ?_
  refine lv_iconst (v := 0) hx hb dX12_begins__1 (by decide) ?_
  refine va_put (D := D) (ci := 12) (v := .int 0) (ty := tyX12 69) (C := RX12) (T := TX12) (N := 100) hx hb hg inX12 tyX12 tyX12_ok nmX12 hown hK hP hD hS 0 rfl rfl 69 (by decide) (hg _ w1775) (fun _ h9 => h9) rfl (tyX12_ok 69 (by decide)) rfl rfl (Nat.le_of_ble_eq_true rfl) dX12_begins__2 (fun H locs hP hD hS => ?_)
  obtain ⟨V1, hV1⟩ : ∃ z, z = up2 V 0 69 0 := ⟨_, rfl⟩
  have hP : va_P D vwCl (mw ad kk ks.1 V1 L) H := by rw [hV1]; exact hP
  have hD : va_D A (mw ad kk ks.1 V1 L) := by rw [hV1]; exact hD
  have hMV1 : rgd bM V1 := hMV.put hV1 (by decide)
  have agV1 : agr [(0, 69), (0, 71), (0, 72), (0, 93), (0, 95), (0, 98)] [] V V1 := agV.up hV1 rfl
  refine lv_aload_n hx hb dX12_begins__5 rfl (lv_at hl 0 rfl) ?_
  refine lv_iconst (v := 0) hx hb dX12_begins__6 (by decide) ?_
  refine va_put (D := D) (ci := 12) (v := .int 0) (ty := tyX12 93) (C := RX12) (T := TX12) (N := 100) hx hb hg inX12 tyX12 tyX12_ok nmX12 hown hK hP hD hS 0 rfl rfl 93 (by decide) (hg _ w1799) (fun _ h9 => h9) rfl (tyX12_ok 93 (by decide)) rfl rfl (Nat.le_of_ble_eq_true rfl) dX12_begins__7 (fun H locs hP hD hS => ?_)
  obtain ⟨V2, hV2⟩ : ∃ z, z = up2 V1 0 93 0 := ⟨_, rfl⟩
  have hP : va_P D vwCl (mw ad kk ks.1 V2 L) H := by rw [hV2]; exact hP
  have hD : va_D A (mw ad kk ks.1 V2 L) := by rw [hV2]; exact hD
  have hMV2 : rgd bM V2 := hMV1.put hV2 (by decide)
  have agV2 : agr [(0, 69), (0, 71), (0, 72), (0, 93), (0, 95), (0, 98)] [] V V2 := agV1.up hV2 rfl
  refine lv_aload_n hx hb dX12_begins__10 rfl (lv_at hl 0 rfl) ?_
  refine lv_iconst (v := 0) hx hb dX12_begins__11 (by decide) ?_
  refine va_put (D := D) (ci := 12) (v := .int 0) (ty := tyX12 98) (C := RX12) (T := TX12) (N := 100) hx hb hg inX12 tyX12 tyX12_ok nmX12 hown hK hP hD hS 0 rfl rfl 98 (by decide) (hg _ w1804) (fun _ h9 => h9) rfl (tyX12_ok 98 (by decide)) rfl rfl (Nat.le_of_ble_eq_true rfl) dX12_begins__12 (fun H locs hP hD hS => ?_)
  obtain ⟨V3, hV3⟩ : ∃ z, z = up2 V2 0 98 0 := ⟨_, rfl⟩
  have hP : va_P D vwCl (mw ad kk ks.1 V3 L) H := by rw [hV3]; exact hP
  have hD : va_D A (mw ad kk ks.1 V3 L) := by rw [hV3]; exact hD
  have hMV3 : rgd bM V3 := hMV2.put hV3 (by decide)
  have agV3 : agr [(0, 69), (0, 71), (0, 72), (0, 93), (0, 95), (0, 98)] [] V V3 := agV2.up hV3 rfl
  refine lv_aload_n hx hb dX12_begins__15 rfl (lv_at hl 0 rfl) ?_
  refine lv_iconst (v := 0) hx hb dX12_begins__16 (by decide) ?_
  refine va_put (D := D) (ci := 12) (v := .int 0) (ty := tyX12 95) (C := RX12) (T := TX12) (N := 100) hx hb hg inX12 tyX12 tyX12_ok nmX12 hown hK hP hD hS 0 rfl rfl 95 (by decide) (hg _ w1801) (fun _ h9 => h9) rfl (tyX12_ok 95 (by decide)) rfl rfl (Nat.le_of_ble_eq_true rfl) dX12_begins__17 (fun H locs hP hD hS => ?_)
  obtain ⟨V4, hV4⟩ : ∃ z, z = up2 V3 0 95 0 := ⟨_, rfl⟩
  have hP : va_P D vwCl (mw ad kk ks.1 V4 L) H := by rw [hV4]; exact hP
  have hD : va_D A (mw ad kk ks.1 V4 L) := by rw [hV4]; exact hD
  have hMV4 : rgd bM V4 := hMV3.put hV4 (by decide)
  have agV4 : agr [(0, 69), (0, 71), (0, 72), (0, 93), (0, 95), (0, 98)] [] V V4 := agV3.up hV4 rfl
  refine lv_aload_n hx hb dX12_begins__20 rfl (lv_at hl 0 rfl) ?_
  refine lv_iconst (v := 0) hx hb dX12_begins__21 (by decide) ?_
  refine va_put (D := D) (ci := 12) (v := .int 0) (ty := tyX12 71) (C := RX12) (T := TX12) (N := 100) hx hb hg inX12 tyX12 tyX12_ok nmX12 hown hK hP hD hS 0 rfl rfl 71 (by decide) (hg _ w1777) (fun _ h9 => h9) rfl (tyX12_ok 71 (by decide)) rfl rfl (Nat.le_of_ble_eq_true rfl) dX12_begins__22 (fun H locs hP hD hS => ?_)
  obtain ⟨V5, hV5⟩ : ∃ z, z = up2 V4 0 71 0 := ⟨_, rfl⟩
  have hP : va_P D vwCl (mw ad kk ks.1 V5 L) H := by rw [hV5]; exact hP
  have hD : va_D A (mw ad kk ks.1 V5 L) := by rw [hV5]; exact hD
  have hMV5 : rgd bM V5 := hMV4.put hV5 (i_full _)
  have agV5 : agr [(0, 69), (0, 71), (0, 72), (0, 93), (0, 95), (0, 98)] [] V V5 := agV4.up hV5 rfl
  refine lv_aload_n hx hb dX12_begins__25 rfl (lv_at hl 0 rfl) ?_
  refine lv_iconst (v := 0) hx hb dX12_begins__26 (by decide) ?_
  refine va_put (D := D) (ci := 12) (v := .int 0) (ty := tyX12 72) (C := RX12) (T := TX12) (N := 100) hx hb hg inX12 tyX12 tyX12_ok nmX12 hown hK hP hD hS 0 rfl rfl 72 (by decide) (hg _ w1778) (fun _ h9 => h9) rfl (tyX12_ok 72 (by decide)) rfl rfl (Nat.le_of_ble_eq_true rfl) dX12_begins__27 (fun H locs hP hD hS => ?_)
  obtain ⟨V6, hV6⟩ : ∃ z, z = up2 V5 0 72 0 := ⟨_, rfl⟩
  have hP : va_P D vwCl (mw ad kk ks.1 V6 L) H := by rw [hV6]; exact hP
  have hD : va_D A (mw ad kk ks.1 V6 L) := by rw [hV6]; exact hD
  have hMV6 : rgd bM V6 := hMV5.put hV6 (i_full _)
  have agV6 : agr [(0, 69), (0, 71), (0, 72), (0, 93), (0, 95), (0, 98)] [] V V6 := agV5.up hV6 rfl
  have pq7 : (V6 0 69).toInt = 0 := (congrArg Int32.toInt ((up2_k hV6 (by decide)).trans ((up2_k hV5 (by decide)).trans ((up2_k hV4 (by decide)).trans ((up2_k hV3 (by decide)).trans ((up2_k hV2 (by decide)).trans (up2_s hV1))))))).trans (by decide)
  have pq8 : (V6 0 93).toInt = 0 := (congrArg Int32.toInt ((up2_k hV6 (by decide)).trans ((up2_k hV5 (by decide)).trans ((up2_k hV4 (by decide)).trans ((up2_k hV3 (by decide)).trans (up2_s hV2)))))).trans (by decide)
  have pq9 : (V6 0 98).toInt = 0 := (congrArg Int32.toInt ((up2_k hV6 (by decide)).trans ((up2_k hV5 (by decide)).trans ((up2_k hV4 (by decide)).trans (up2_s hV3))))).trans (by decide)
  have pq10 : (V6 0 95).toInt = 0 := (congrArg Int32.toInt ((up2_k hV6 (by decide)).trans ((up2_k hV5 (by decide)).trans (up2_s hV4)))).trans (by decide)
  have pq11 : (V6 0 72).toInt = 0 := (congrArg Int32.toInt (up2_s hV6)).trans (by decide)
  have pq12 : (V6 0 71).toInt = 0 := (congrArg Int32.toInt ((up2_k hV6 (by decide)).trans (up2_s hV5))).trans (by decide)
  exact W.vret hx hb hr (fun t ht hW => ⟨⟨(V6, L), rfl, ⟨hMV6, agV6, rfl, (show (V6 0 69).toInt = 0 from by (first | exact om_b66ba74381d5 pq7 | omega)), (show (V6 0 93).toInt = 0 from by (first | exact om_b66ba74381d5 pq8 | omega)), (show (V6 0 98).toInt = 0 from by (first | exact om_b66ba74381d5 pq9 | omega)), (show (V6 0 95).toInt = 0 from by (first | exact om_b66ba74381d5 pq10 | omega)), (show (V6 0 71).toInt = 0 ∧ (V6 0 72).toInt = 0 from by (first | exact om_1845fc80a647 pq11 pq12 | omega))⟩, by rw [ht]; exact hP, va_K.moved hW.alike hK, hD⟩, hS.F ht⟩) hS.2.2 dX12_begins__30
abbrev r_s_ends3 : Room := { frames := 0, cells := 0, slots := 0, locals := 0 }
abbrev q_s_ends3 (D : va_G) (ks : KS) (ad : Nat → Nat) (kk : Nat → ClassId) (V : Vf) (L : Lf) (p0 : Int32) (A : Nat → Prop) : Array Value → State → Outcome → State → Prop := va_Qi (fun (r : Int32) (u : Vf × Lf) => rgd bM u.1 ∧ agr [(0, 70), (0, 71), (0, 72)] [] V u.1 ∧ u.2 = L ∧ (0 ≤ r.toInt ∧ r.toInt ≤ 1) ∧ ((r.toInt = 1 ∧ p0.toInt = 0 ∧ (u.1 0 71).toInt = 0 ∧ (u.1 0 72).toInt = 0) ∨ (r.toInt = 0 ∧ p0.toInt = 1 ∧ (u.1 0 71).toInt = (V 0 90).toInt ∧ (u.1 0 72).toInt = (V 0 91).toInt) ∨ (r.toInt = 0 ∧ p0.toInt = 2 ∧ (u.1 0 71).toInt = 0 ∧ (u.1 0 72).toInt = 0))) (fun u t => gq D A (mw ad kk ks.1 u.1 u.2) (mty kk) t) A
set_option maxHeartbeats 4000000 in
set_option maxRecDepth 100000 in
theorem s_ends3 (l : Launch) (D : va_G) (ks : KS) (sz : Nat) (ad : Nat → Nat) (kk : Nat → ClassId) (V : Vf) (L : Lf) (p0 : Int32) (hMV : rgd bM V) (rg_p0 : 0 ≤ p0.toInt ∧ p0.toInt ≤ 2)  : Met l yX12_ends (Cond.code yX12_ends cX12_ends 2 (some .boolean) :: GW) r_s_ends3 (va_Pc [.ref (ad 0), .int p0] (gp D ks (mw ad kk ks.1 V L) (mty kk) sz)) (q_s_ends3 D ks ad kk V L p0 (va_A (mw ad kk ks.1 V L) sz)) 0 0 (va_A (mw ad kk ks.1 V L) sz) := by
  refine g_met (q_s_ends3 D ks ad kk V L p0) (by decide) (Nat.le_of_ble_eq_true rfl) ?_
  intro p e s m below meth c A ls H locs hx hb hr hml hown hg hlocks hin hnw hgk hP hK hD hS hA hl
  have hown : s.vm.findClass RX12 = some m.cls := hown
  have hl : lv_has ls 2 [(0, .ref (ad 0)), (1, .int p0)] := hl
  have hP : va_P D vwCl (mw ad kk ks.1 V L) H := hP
  have hD : va_D A (mw ad kk ks.1 V L) := hD
  have hK : va_K D vwCl (mty kk) s := hK
  have agV : agr [(0, 70), (0, 71), (0, 72)] [] V V := agr.rf
  refine lv_aload_n hx hb dX12_ends_0 rfl (lv_at hl 0 rfl) ?_
  refine lv_iload_n hx hb dX12_ends_1 rfl (lv_at hl 1 rfl) ?_
  refine lv_if_ne (tgt := 9) hx hb dX12_ends_2 (by decide) (fun c1 => ?_) (fun c1 => ?_)
  · skip
    have f2 : p0.toInt ≠ 0 := b_neq rfl (by decide) c1
    refine lv_iload_n hx hb dX12_ends_9 rfl (lv_at hl 1 rfl) ?_
    refine lv_iconst (v := 1) hx hb dX12_ends_10 (by decide) ?_
    refine lv_icmp_ne (tgt := 18) hx hb dX12_ends_11 (by decide) (fun c3 => ?_) (fun c3 => ?_)
    · skip
      have f4 : p0.toInt ≠ 1 := b_neq rfl (by decide) c3
      refine lv_bipush (v := 6) hx hb dX12_ends_18 (by decide) ?_
      refine va_put (D := D) (ci := 12) (v := .int 6) (ty := tyX12 70) (C := RX12) (T := TX12) (N := 100) hx hb hg inX12 tyX12 tyX12_ok nmX12 hown hK hP hD hS 0 rfl rfl 70 (by decide) (hg _ w1776) (fun _ h9 => h9) rfl (tyX12_ok 70 (by decide)) rfl rfl (Nat.le_of_ble_eq_true rfl) dX12_ends_20 (fun H locs hP hD hS => ?_)
      obtain ⟨V5, hV5⟩ : ∃ z, z = up2 V 0 70 6 := ⟨_, rfl⟩
      have hP : va_P D vwCl (mw ad kk ks.1 V5 L) H := by rw [hV5]; exact hP
      have hD : va_D A (mw ad kk ks.1 V5 L) := by rw [hV5]; exact hD
      have hMV5 : rgd bM V5 := hMV.put hV5 (i_full _)
      have agV5 : agr [(0, 70), (0, 71), (0, 72)] [] V V5 := agV.up hV5 rfl
      refine lv_aload_n hx hb dX12_ends_23 rfl (lv_at hl 0 rfl) ?_
      refine lv_iload_n hx hb dX12_ends_24 rfl (lv_at hl 1 rfl) ?_
      refine lv_iconst (v := 1) hx hb dX12_ends_25 (by decide) ?_
      refine lv_icmp_ne (tgt := 36) hx hb dX12_ends_26 (by decide) (fun c6 => ?_) (fun c6 => ?_)
      · skip
        have f7 : p0.toInt ≠ 1 := b_neq rfl (by decide) c6
        refine lv_iconst (v := 0) hx hb dX12_ends_36 (by decide) ?_
        refine va_put (D := D) (ci := 12) (v := .int 0) (ty := tyX12 71) (C := RX12) (T := TX12) (N := 100) hx hb hg inX12 tyX12 tyX12_ok nmX12 hown hK hP hD hS 0 rfl rfl 71 (by decide) (hg _ w1777) (fun _ h9 => h9) rfl (tyX12_ok 71 (by decide)) rfl rfl (Nat.le_of_ble_eq_true rfl) dX12_ends_37 (fun H locs hP hD hS => ?_)
        obtain ⟨V8, hV8⟩ : ∃ z, z = up2 V5 0 71 0 := ⟨_, rfl⟩
        have hP : va_P D vwCl (mw ad kk ks.1 V8 L) H := by rw [hV8]; exact hP
        have hD : va_D A (mw ad kk ks.1 V8 L) := by rw [hV8]; exact hD
        have hMV8 : rgd bM V8 := hMV5.put hV8 (i_full _)
        have agV8 : agr [(0, 70), (0, 71), (0, 72)] [] V V8 := agV5.up hV8 rfl
        refine lv_aload_n hx hb dX12_ends_40 rfl (lv_at hl 0 rfl) ?_
        refine lv_iload_n hx hb dX12_ends_41 rfl (lv_at hl 1 rfl) ?_
        refine lv_iconst (v := 1) hx hb dX12_ends_42 (by decide) ?_
        refine lv_icmp_ne (tgt := 53) hx hb dX12_ends_43 (by decide) (fun c9 => ?_) (fun c9 => ?_)
        · skip
          have f10 : p0.toInt ≠ 1 := b_neq rfl (by decide) c9
          refine lv_iconst (v := 0) hx hb dX12_ends_53 (by decide) ?_
          refine va_put (D := D) (ci := 12) (v := .int 0) (ty := tyX12 72) (C := RX12) (T := TX12) (N := 100) hx hb hg inX12 tyX12 tyX12_ok nmX12 hown hK hP hD hS 0 rfl rfl 72 (by decide) (hg _ w1778) (fun _ h9 => h9) rfl (tyX12_ok 72 (by decide)) rfl rfl (Nat.le_of_ble_eq_true rfl) dX12_ends_54 (fun H locs hP hD hS => ?_)
          obtain ⟨V11, hV11⟩ : ∃ z, z = up2 V8 0 72 0 := ⟨_, rfl⟩
          have hP : va_P D vwCl (mw ad kk ks.1 V11 L) H := by rw [hV11]; exact hP
          have hD : va_D A (mw ad kk ks.1 V11 L) := by rw [hV11]; exact hD
          have hMV11 : rgd bM V11 := hMV8.put hV11 (i_full _)
          have agV11 : agr [(0, 70), (0, 71), (0, 72)] [] V V11 := agV8.up hV11 rfl
          refine lv_iload_n hx hb dX12_ends_57 rfl (lv_at hl 1 rfl) ?_
          refine lv_if_ne (tgt := 65) hx hb dX12_ends_58 (by decide) (fun c12 => ?_) (fun c12 => ?_)
          · skip
            have f13 : p0.toInt ≠ 0 := b_neq rfl (by decide) c12
            refine lv_iconst (v := 0) hx hb dX12_ends_65 (by decide) ?_
            have pq14 : (V11 0 72).toInt = 0 := (congrArg Int32.toInt (up2_s hV11)).trans (by decide)
            have pq15 : (V11 0 71).toInt = 0 := (congrArg Int32.toInt ((up2_k hV11 (by decide)).trans (up2_s hV8))).trans (by decide)
            have pq16 : (V11 0 91).toInt = ((V 0 91)).toInt := congrArg Int32.toInt ((up2_k hV11 (by decide)).trans ((up2_k hV8 (by decide)).trans (up2_k hV5 (by decide))))
            have pq17 : (V11 0 90).toInt = ((V 0 90)).toInt := congrArg Int32.toInt ((up2_k hV11 (by decide)).trans ((up2_k hV8 (by decide)).trans (up2_k hV5 (by decide))))
            exact W.zret (v := 0) hx hb hr rfl (fun t ht hW => ⟨⟨0, (V11, L), rfl, ⟨hMV11, agV11, rfl, (by decide), (show (0 = 1 ∧ p0.toInt = 0 ∧ (V11 0 71).toInt = 0 ∧ (V11 0 72).toInt = 0) ∨ (0 = 0 ∧ p0.toInt = 1 ∧ (V11 0 71).toInt = (V 0 90).toInt ∧ (V11 0 72).toInt = (V 0 91).toInt) ∨ (0 = 0 ∧ p0.toInt = 2 ∧ (V11 0 71).toInt = 0 ∧ (V11 0 72).toInt = 0) from by omega)⟩, by rw [ht]; exact hP, va_K.moved hW.alike hK, hD⟩, hS.F ht⟩) hS.2.2 dX12_ends_66
          · skip
            have f18 : p0.toInt = 0 := b_eq rfl (by decide) c12
            exfalso; (first | exact om_0abcda13baee rg_p0.1 f2 f18 | omega)
        · skip
          have f19 : p0.toInt = 1 := b_eq rfl (by decide) c9
          exfalso; (first | exact om_05088dda93b7 f4 f19 | omega)
      · skip
        have f20 : p0.toInt = 1 := b_eq rfl (by decide) c6
        exfalso; (first | exact om_05088dda93b7 f4 f20 | omega)
    · skip
      have f21 : p0.toInt = 1 := b_eq rfl (by decide) c3
      refine lv_iconst (v := 1) hx hb dX12_ends_14 (by decide) ?_
      refine lv_goto (tgt := 20) hx hb dX12_ends_15 (by decide) ?_
      refine va_put (D := D) (ci := 12) (v := .int 1) (ty := tyX12 70) (C := RX12) (T := TX12) (N := 100) hx hb hg inX12 tyX12 tyX12_ok nmX12 hown hK hP hD hS 0 rfl rfl 70 (by decide) (hg _ w1776) (fun _ h9 => h9) rfl (tyX12_ok 70 (by decide)) rfl rfl (Nat.le_of_ble_eq_true rfl) dX12_ends_20 (fun H locs hP hD hS => ?_)
      obtain ⟨V22, hV22⟩ : ∃ z, z = up2 V 0 70 1 := ⟨_, rfl⟩
      have hP : va_P D vwCl (mw ad kk ks.1 V22 L) H := by rw [hV22]; exact hP
      have hD : va_D A (mw ad kk ks.1 V22 L) := by rw [hV22]; exact hD
      have hMV22 : rgd bM V22 := hMV.put hV22 (i_full _)
      have agV22 : agr [(0, 70), (0, 71), (0, 72)] [] V V22 := agV.up hV22 rfl
      refine lv_aload_n hx hb dX12_ends_23 rfl (lv_at hl 0 rfl) ?_
      refine lv_iload_n hx hb dX12_ends_24 rfl (lv_at hl 1 rfl) ?_
      refine lv_iconst (v := 1) hx hb dX12_ends_25 (by decide) ?_
      refine lv_icmp_ne (tgt := 36) hx hb dX12_ends_26 (by decide) (fun c23 => ?_) (fun c23 => ?_)
      · skip
        have f24 : p0.toInt ≠ 1 := b_neq rfl (by decide) c23
        exfalso; (first | exact om_b36fcf15d462 f21 f24 | omega)
      · skip
        have f25 : p0.toInt = 1 := b_eq rfl (by decide) c23
        refine lv_aload_n hx hb dX12_ends_29 rfl (lv_at hl 0 rfl) ?_
        refine va_get (D := D) (ci := 12) (v := .int (V22 0 90)) (C := RX12) (T := TX12) (N := 100) hx hb hg inX12 hown hK hP 0 rfl rfl 90 (by decide) (hg _ w1796) (fun _ h9 => h9) rfl dX12_ends_30 ?_
        refine g_top (v := (V 0 90)) (up2_k hV22 (by decide)) ?_
        refine lv_goto (tgt := 37) hx hb dX12_ends_33 (by decide) ?_
        refine va_put (D := D) (ci := 12) (v := .int (V 0 90)) (ty := tyX12 71) (C := RX12) (T := TX12) (N := 100) hx hb hg inX12 tyX12 tyX12_ok nmX12 hown hK hP hD hS 0 rfl rfl 71 (by decide) (hg _ w1777) (fun _ h9 => h9) rfl (tyX12_ok 71 (by decide)) rfl rfl (Nat.le_of_ble_eq_true rfl) dX12_ends_37 (fun H locs hP hD hS => ?_)
        obtain ⟨V26, hV26⟩ : ∃ z, z = up2 V22 0 71 (V 0 90) := ⟨_, rfl⟩
        have hP : va_P D vwCl (mw ad kk ks.1 V26 L) H := by rw [hV26]; exact hP
        have hD : va_D A (mw ad kk ks.1 V26 L) := by rw [hV26]; exact hD
        have hMV26 : rgd bM V26 := hMV22.put hV26 (i_full _)
        have agV26 : agr [(0, 70), (0, 71), (0, 72)] [] V V26 := agV22.up hV26 rfl
        refine lv_aload_n hx hb dX12_ends_40 rfl (lv_at hl 0 rfl) ?_
        refine lv_iload_n hx hb dX12_ends_41 rfl (lv_at hl 1 rfl) ?_
        refine lv_iconst (v := 1) hx hb dX12_ends_42 (by decide) ?_
        refine lv_icmp_ne (tgt := 53) hx hb dX12_ends_43 (by decide) (fun c27 => ?_) (fun c27 => ?_)
        · skip
          have f28 : p0.toInt ≠ 1 := b_neq rfl (by decide) c27
          exfalso; (first | exact om_b36fcf15d462 f21 f28 | omega)
        · skip
          have f29 : p0.toInt = 1 := b_eq rfl (by decide) c27
          refine lv_aload_n hx hb dX12_ends_46 rfl (lv_at hl 0 rfl) ?_
          refine va_get (D := D) (ci := 12) (v := .int (V26 0 91)) (C := RX12) (T := TX12) (N := 100) hx hb hg inX12 hown hK hP 0 rfl rfl 91 (by decide) (hg _ w1797) (fun _ h9 => h9) rfl dX12_ends_47 ?_
          refine g_top (v := (V 0 91)) ((up2_k hV26 (by decide)).trans (up2_k hV22 (by decide))) ?_
          refine lv_goto (tgt := 54) hx hb dX12_ends_50 (by decide) ?_
          refine va_put (D := D) (ci := 12) (v := .int (V 0 91)) (ty := tyX12 72) (C := RX12) (T := TX12) (N := 100) hx hb hg inX12 tyX12 tyX12_ok nmX12 hown hK hP hD hS 0 rfl rfl 72 (by decide) (hg _ w1778) (fun _ h9 => h9) rfl (tyX12_ok 72 (by decide)) rfl rfl (Nat.le_of_ble_eq_true rfl) dX12_ends_54 (fun H locs hP hD hS => ?_)
          obtain ⟨V30, hV30⟩ : ∃ z, z = up2 V26 0 72 (V 0 91) := ⟨_, rfl⟩
          have hP : va_P D vwCl (mw ad kk ks.1 V30 L) H := by rw [hV30]; exact hP
          have hD : va_D A (mw ad kk ks.1 V30 L) := by rw [hV30]; exact hD
          have hMV30 : rgd bM V30 := hMV26.put hV30 (i_full _)
          have agV30 : agr [(0, 70), (0, 71), (0, 72)] [] V V30 := agV26.up hV30 rfl
          refine lv_iload_n hx hb dX12_ends_57 rfl (lv_at hl 1 rfl) ?_
          refine lv_if_ne (tgt := 65) hx hb dX12_ends_58 (by decide) (fun c31 => ?_) (fun c31 => ?_)
          · skip
            have f32 : p0.toInt ≠ 0 := b_neq rfl (by decide) c31
            refine lv_iconst (v := 0) hx hb dX12_ends_65 (by decide) ?_
            have pq33 : (V30 0 72).toInt = ((V 0 91)).toInt := congrArg Int32.toInt (up2_s hV30)
            have pq34 : (V30 0 71).toInt = ((V 0 90)).toInt := congrArg Int32.toInt ((up2_k hV30 (by decide)).trans (up2_s hV26))
            have pq35 : (V30 0 91).toInt = ((V 0 91)).toInt := congrArg Int32.toInt ((up2_k hV30 (by decide)).trans ((up2_k hV26 (by decide)).trans (up2_k hV22 (by decide))))
            have pq36 : (V30 0 90).toInt = ((V 0 90)).toInt := congrArg Int32.toInt ((up2_k hV30 (by decide)).trans ((up2_k hV26 (by decide)).trans (up2_k hV22 (by decide))))
            exact W.zret (v := 0) hx hb hr rfl (fun t ht hW => ⟨⟨0, (V30, L), rfl, ⟨hMV30, agV30, rfl, (by decide), (show (0 = 1 ∧ p0.toInt = 0 ∧ (V30 0 71).toInt = 0 ∧ (V30 0 72).toInt = 0) ∨ (0 = 0 ∧ p0.toInt = 1 ∧ (V30 0 71).toInt = (V 0 90).toInt ∧ (V30 0 72).toInt = (V 0 91).toInt) ∨ (0 = 0 ∧ p0.toInt = 2 ∧ (V30 0 71).toInt = 0 ∧ (V30 0 72).toInt = 0) from by omega)⟩, by rw [ht]; exact hP, va_K.moved hW.alike hK, hD⟩, hS.F ht⟩) hS.2.2 dX12_ends_66
          · skip
            have f37 : p0.toInt = 0 := b_eq rfl (by decide) c31
            exfalso; (first | exact om_39e53adb401e f2 f21 f37 | omega)
  · skip
    have f38 : p0.toInt = 0 := b_eq rfl (by decide) c1
    refine lv_iconst (v := 0) hx hb dX12_ends_5 (by decide) ?_
    refine lv_goto (tgt := 20) hx hb dX12_ends_6 (by decide) ?_
    refine va_put (D := D) (ci := 12) (v := .int 0) (ty := tyX12 70) (C := RX12) (T := TX12) (N := 100) hx hb hg inX12 tyX12 tyX12_ok nmX12 hown hK hP hD hS 0 rfl rfl 70 (by decide) (hg _ w1776) (fun _ h9 => h9) rfl (tyX12_ok 70 (by decide)) rfl rfl (Nat.le_of_ble_eq_true rfl) dX12_ends_20 (fun H locs hP hD hS => ?_)
    obtain ⟨V39, hV39⟩ : ∃ z, z = up2 V 0 70 0 := ⟨_, rfl⟩
    have hP : va_P D vwCl (mw ad kk ks.1 V39 L) H := by rw [hV39]; exact hP
    have hD : va_D A (mw ad kk ks.1 V39 L) := by rw [hV39]; exact hD
    have hMV39 : rgd bM V39 := hMV.put hV39 (i_full _)
    have agV39 : agr [(0, 70), (0, 71), (0, 72)] [] V V39 := agV.up hV39 rfl
    refine lv_aload_n hx hb dX12_ends_23 rfl (lv_at hl 0 rfl) ?_
    refine lv_iload_n hx hb dX12_ends_24 rfl (lv_at hl 1 rfl) ?_
    refine lv_iconst (v := 1) hx hb dX12_ends_25 (by decide) ?_
    refine lv_icmp_ne (tgt := 36) hx hb dX12_ends_26 (by decide) (fun c40 => ?_) (fun c40 => ?_)
    · skip
      have f41 : p0.toInt ≠ 1 := b_neq rfl (by decide) c40
      refine lv_iconst (v := 0) hx hb dX12_ends_36 (by decide) ?_
      refine va_put (D := D) (ci := 12) (v := .int 0) (ty := tyX12 71) (C := RX12) (T := TX12) (N := 100) hx hb hg inX12 tyX12 tyX12_ok nmX12 hown hK hP hD hS 0 rfl rfl 71 (by decide) (hg _ w1777) (fun _ h9 => h9) rfl (tyX12_ok 71 (by decide)) rfl rfl (Nat.le_of_ble_eq_true rfl) dX12_ends_37 (fun H locs hP hD hS => ?_)
      obtain ⟨V42, hV42⟩ : ∃ z, z = up2 V39 0 71 0 := ⟨_, rfl⟩
      have hP : va_P D vwCl (mw ad kk ks.1 V42 L) H := by rw [hV42]; exact hP
      have hD : va_D A (mw ad kk ks.1 V42 L) := by rw [hV42]; exact hD
      have hMV42 : rgd bM V42 := hMV39.put hV42 (i_full _)
      have agV42 : agr [(0, 70), (0, 71), (0, 72)] [] V V42 := agV39.up hV42 rfl
      refine lv_aload_n hx hb dX12_ends_40 rfl (lv_at hl 0 rfl) ?_
      refine lv_iload_n hx hb dX12_ends_41 rfl (lv_at hl 1 rfl) ?_
      refine lv_iconst (v := 1) hx hb dX12_ends_42 (by decide) ?_
      refine lv_icmp_ne (tgt := 53) hx hb dX12_ends_43 (by decide) (fun c43 => ?_) (fun c43 => ?_)
      · skip
        have f44 : p0.toInt ≠ 1 := b_neq rfl (by decide) c43
        refine lv_iconst (v := 0) hx hb dX12_ends_53 (by decide) ?_
        refine va_put (D := D) (ci := 12) (v := .int 0) (ty := tyX12 72) (C := RX12) (T := TX12) (N := 100) hx hb hg inX12 tyX12 tyX12_ok nmX12 hown hK hP hD hS 0 rfl rfl 72 (by decide) (hg _ w1778) (fun _ h9 => h9) rfl (tyX12_ok 72 (by decide)) rfl rfl (Nat.le_of_ble_eq_true rfl) dX12_ends_54 (fun H locs hP hD hS => ?_)
        obtain ⟨V45, hV45⟩ : ∃ z, z = up2 V42 0 72 0 := ⟨_, rfl⟩
        have hP : va_P D vwCl (mw ad kk ks.1 V45 L) H := by rw [hV45]; exact hP
        have hD : va_D A (mw ad kk ks.1 V45 L) := by rw [hV45]; exact hD
        have hMV45 : rgd bM V45 := hMV42.put hV45 (i_full _)
        have agV45 : agr [(0, 70), (0, 71), (0, 72)] [] V V45 := agV42.up hV45 rfl
        refine lv_iload_n hx hb dX12_ends_57 rfl (lv_at hl 1 rfl) ?_
        refine lv_if_ne (tgt := 65) hx hb dX12_ends_58 (by decide) (fun c46 => ?_) (fun c46 => ?_)
        · skip
          have f47 : p0.toInt ≠ 0 := b_neq rfl (by decide) c46
          exfalso; (first | exact om_fb320d7600b7 rg_p0.1 f38 f47 | omega)
        · skip
          have f48 : p0.toInt = 0 := b_eq rfl (by decide) c46
          refine lv_iconst (v := 1) hx hb dX12_ends_61 (by decide) ?_
          refine lv_goto (tgt := 66) hx hb dX12_ends_62 (by decide) ?_
          have pq49 : (V45 0 72).toInt = 0 := (congrArg Int32.toInt (up2_s hV45)).trans (by decide)
          have pq50 : (V45 0 71).toInt = 0 := (congrArg Int32.toInt ((up2_k hV45 (by decide)).trans (up2_s hV42))).trans (by decide)
          have pq51 : (V45 0 91).toInt = ((V 0 91)).toInt := congrArg Int32.toInt ((up2_k hV45 (by decide)).trans ((up2_k hV42 (by decide)).trans (up2_k hV39 (by decide))))
          have pq52 : (V45 0 90).toInt = ((V 0 90)).toInt := congrArg Int32.toInt ((up2_k hV45 (by decide)).trans ((up2_k hV42 (by decide)).trans (up2_k hV39 (by decide))))
          exact W.zret (v := 1) hx hb hr rfl (fun t ht hW => ⟨⟨1, (V45, L), rfl, ⟨hMV45, agV45, rfl, (by decide), (show (1 = 1 ∧ p0.toInt = 0 ∧ (V45 0 71).toInt = 0 ∧ (V45 0 72).toInt = 0) ∨ (1 = 0 ∧ p0.toInt = 1 ∧ (V45 0 71).toInt = (V 0 90).toInt ∧ (V45 0 72).toInt = (V 0 91).toInt) ∨ (1 = 0 ∧ p0.toInt = 2 ∧ (V45 0 71).toInt = 0 ∧ (V45 0 72).toInt = 0) from by omega)⟩, by rw [ht]; exact hP, va_K.moved hW.alike hK, hD⟩, hS.F ht⟩) hS.2.2 dX12_ends_66
      · skip
        have f53 : p0.toInt = 1 := b_eq rfl (by decide) c43
        exfalso; (first | exact om_be3b189e44b6 f38 f41 f53 | omega)
    · skip
      have f54 : p0.toInt = 1 := b_eq rfl (by decide) c40
      exfalso; (first | exact om_4c701f2d8c50 f38 f54 | omega)
abbrev r_s_get3 : Room := { frames := 1617, cells := 0, slots := 0, locals := 40647 }
abbrev q_s_get3 (D : va_G) (ks : KS) (ad : Nat → Nat) (kk : Nat → ClassId) (V : Vf) (L : Lf) (p0 : Int32) (p1 : Int32) (gB : Bk) (grk : Nat → Nat) (A : Nat → Prop) : Array Value → State → Outcome → State → Prop := va_Qi (fun (r : Int32) (u : Vf × Lf) => rgd bM u.1 ∧ agr [(0, 0), (0, 60), (0, 65), (0, 68), (0, 69), (0, 70), (0, 71), (0, 72), (0, 73), (0, 76), (0, 90), (0, 91), (0, 92), (0, 93), (0, 95), (0, 96), (0, 98)] [59, 61, 62, 63, 64, 66, 67, 74, 75, 77, 78, 79, 80, 94, 97] V u.1 ∧ u.2 = L ∧ ((u.1 0 65).toInt ≤ (u.1 0 60).toInt) ∧ ((u.1 0 73).toInt - (u.1 0 65).toInt ≤ (V 0 73).toInt - (V 0 65).toInt + 300) ∧ ((u.1 0 76).toInt - (u.1 0 69).toInt - (u.1 0 73).toInt ≤ (V 0 76).toInt - (V 0 69).toInt - (V 0 73).toInt + 3000) ∧ (RT0 u.1) ∧ (((V 0 54).toInt = 1 ∧ (0 ≤ p0.toInt ∧ p0.toInt < (V 0 55).toInt ∧ (V 56 (Int32.toNatClampNeg p0)).toInt = 1) ∧ (0 ≤ p1.toInt ∧ th V (Int32.toNatClampNeg p1))) → GEo gB (mU (mV V 0 0 0) 0 1 0, 0, [Froot0 0 p1.toInt p0.toInt 0]) u.1 r.toInt (-1)) ∧ (¬ ((V 0 54).toInt = 1 ∧ (0 ≤ p0.toInt ∧ p0.toInt < (V 0 55).toInt ∧ (V 56 (Int32.toNatClampNeg p0)).toInt = 1) ∧ (0 ≤ p1.toInt ∧ th V (Int32.toNatClampNeg p1))) → r.toInt = -1 ∧ mV u.1 0 0 0 = mU (mV V 0 0 0) 0 1 0 ∧ (u.1 0 71).toInt = 0 ∧ (u.1 0 72).toInt = 0) ∧ ((u.1 0 54).toInt = 1 → RJm u.1 gB)) (fun u t => gq D A (mw ad kk ks.1 u.1 u.2) (mty kk) t) A
set_option maxHeartbeats 4000000 in
set_option maxRecDepth 100000 in
theorem s_get3 (l : Launch) (D : va_G) (ks : KS) (sz : Nat) (ad : Nat → Nat) (kk : Nat → ClassId) (V : Vf) (L : Lf) (p0 : Int32) (p1 : Int32) (gB : Bk) (grk : Nat → Nat) (hMV : rgd bM V) (r0 : RT0 V) (n1 : (V 0 65).toInt ≤ (V 0 60).toInt) (n3 : (V 0 73).toInt - (V 0 65).toInt ≤ 990000) (n4 : (V 0 76).toInt - (V 0 69).toInt - (V 0 73).toInt ≤ 900000000) (bkq : (V 0 54).toInt = 1 → BKm V gB ∧ BKr gB grk ∧ RJm V gB)  : Met l yX12_get (Cond.code yX12_get cX12_get 3 (some .int) :: GW) r_s_get3 (va_Pc [.ref (ad 0), .int p0, .int p1] (gp D ks (mw ad kk ks.1 V L) (mty kk) sz)) (q_s_get3 D ks ad kk V L p0 p1 gB grk (va_A (mw ad kk ks.1 V L) sz)) 0 0 (va_A (mw ad kk ks.1 V L) sz) := by
  refine g_met (q_s_get3 D ks ad kk V L p0 p1 gB grk) (by decide) (Nat.le_of_ble_eq_true rfl) ?_
  intro p e s m below meth c A ls H locs hx hb hr hml hown hg hlocks hin hnw hgk hP hK hD hS hA hl
  have hown : s.vm.findClass RX12 = some m.cls := hown
  have hl : lv_has ls 3 [(0, .ref (ad 0)), (1, .int p0), (2, .int p1)] := hl
  have hP : va_P D vwCl (mw ad kk ks.1 V L) H := hP
  have hD : va_D A (mw ad kk ks.1 V L) := hD
  have hK : va_K D vwCl (mty kk) s := hK
  have agV : agr [(0, 0), (0, 60), (0, 65), (0, 68), (0, 69), (0, 70), (0, 71), (0, 72), (0, 73), (0, 76), (0, 90), (0, 91), (0, 92), (0, 93), (0, 95), (0, 96), (0, 98)] [59, 61, 62, 63, 64, 66, 67, 74, 75, 77, 78, 79, 80, 94, 97] V V := agr.rf
  have r1 : 0 ≤ ((V 0 65)).toInt ∧ ((V 0 65)).toInt ≤ 1000000 := hMV 0 65
  have r2 : 0 ≤ ((V 0 60)).toInt ∧ ((V 0 60)).toInt ≤ 300 := hMV 0 60
  have r3 : 0 ≤ ((V 0 73)).toInt ∧ ((V 0 73)).toInt ≤ 1000000 := hMV 0 73
  have r4 : 0 ≤ ((V 0 76)).toInt ∧ ((V 0 76)).toInt ≤ 2000000000 := hMV 0 76
  have r5 : 0 ≤ ((V 0 69)).toInt ∧ ((V 0 69)).toInt ≤ 3000 := hMV 0 69
  have fz : (V 0 95).toInt = 0 := r0.2.2.2.2
  have hl3 : 0 ≤ (V 0 69).toInt ∧ (V 0 69).toInt ≤ 3000 := hMV 0 69
  refine lv_aload_n hx hb dX12_get_0 rfl (lv_at hl 0 rfl) ?_
  refine lv_iconst (v := 0) hx hb dX12_get_1 (by decide) ?_
  refine va_put (D := D) (ci := 12) (v := .int 0) (ty := tyX12 0) (C := RX12) (T := TX12) (N := 100) hx hb hg inX12 tyX12 tyX12_ok nmX12 hown hK hP hD hS 0 rfl rfl 0 (by decide) (hg _ w1706) (fun _ h9 => h9) rfl (tyX12_ok 0 (by decide)) rfl rfl (Nat.le_of_ble_eq_true rfl) dX12_get_2 (fun H locs hP hD hS => ?_)
  obtain ⟨V6, hV6⟩ : ∃ z, z = up2 V 0 0 0 := ⟨_, rfl⟩
  have hP : va_P D vwCl (mw ad kk ks.1 V6 L) H := by rw [hV6]; exact hP
  have hD : va_D A (mw ad kk ks.1 V6 L) := by rw [hV6]; exact hD
  have hMV6 : rgd bM V6 := hMV.put hV6 (i_full _)
  have agV6 : agr [(0, 0), (0, 60), (0, 65), (0, 68), (0, 69), (0, 70), (0, 71), (0, 72), (0, 73), (0, 76), (0, 90), (0, 91), (0, 92), (0, 93), (0, 95), (0, 96), (0, 98)] [59, 61, 62, 63, 64, 66, 67, 74, 75, 77, 78, 79, 80, 94, 97] V V6 := agV.up hV6 rfl
  refine lv_aload_n hx hb dX12_get_5 rfl (lv_at hl 0 rfl) ?_
  refine gA_void (gA_runV (As := []) (rest := []) (ci := 12) (q0 := 0) hx hb hml hown hg hP hD hK hS hA hnw hgk (s_begins3 l D ks H.size ad kk V6 L  hMV6 ) w2231 w2233 w127 w172 w2234 rfl rfl hdV_yX12_begins_ ⟨Nat.le_of_ble_eq_true rfl, Nat.le_of_ble_eq_true rfl⟩ rfl hl.1 rfl (Nat.le_of_ble_eq_true rfl) dX12_get_6 ⟨Nat.le_of_ble_eq_true rfl, Nat.le_of_ble_eq_true rfl⟩) hP hD hK hS hA (fun u8 H locs w9 hP hD hK hS => ?_)
  obtain ⟨V15, L16⟩ := u8
  obtain ⟨hMV15, ajV15, axL16, t10, t11, t12, t13, t14⟩ := w9
  have axL16 : L = L16 := Eq.symm axL16
  subst axL16
  have hP : va_P D vwCl (mw ad kk ks.1 V15 L) H := hP
  have hD : va_D A (mw ad kk ks.1 V15 L) := hD
  have hMV15 : rgd bM V15 := hMV15
  have ajV15 : agr [(0, 69), (0, 71), (0, 72), (0, 93), (0, 95), (0, 98)] [] V6 V15 := ajV15
  have agV15 : agr [(0, 0), (0, 60), (0, 65), (0, 68), (0, 69), (0, 70), (0, 71), (0, 72), (0, 73), (0, 76), (0, 90), (0, 91), (0, 92), (0, 93), (0, 95), (0, 96), (0, 98)] [59, 61, 62, 63, 64, 66, 67, 74, 75, 77, 78, 79, 80, 94, 97] V V15 := agV6.tr ajV15 (by decide) (by decide)
  have t10 : (V15 0 69).toInt = 0 := t10
  have t11 : (V15 0 93).toInt = 0 := t11
  have t12 : (V15 0 98).toInt = 0 := t12
  have t13 : (V15 0 95).toInt = 0 := t13
  have t14 : (V15 0 71).toInt = 0 ∧ (V15 0 72).toInt = 0 := t14
  have r17 : 0 ≤ ((V15 0 69)).toInt ∧ ((V15 0 69)).toInt ≤ 3000 := hMV15 0 69
  have r18 : 0 ≤ ((V15 0 93)).toInt ∧ ((V15 0 93)).toInt ≤ 10 := hMV15 0 93
  have r19 : 0 ≤ ((V15 0 98)).toInt ∧ ((V15 0 98)).toInt ≤ 20000 := hMV15 0 98
  have r20 : 0 ≤ ((V15 0 95)).toInt ∧ ((V15 0 95)).toInt ≤ 300 := hMV15 0 95
  have pq21 : (V15 0 55).toInt = ((V 0 55)).toInt := congrArg Int32.toInt ((ajV15 0 55 rfl).trans (up2_k hV6 (by decide)))
  have r22 : 1 ≤ ((V 0 55)).toInt ∧ ((V 0 55)).toInt ≤ 40 := hMV 0 55
  have pq23 : (V15 56 (Int32.toNatClampNeg p0)).toInt = ((V 56 (Int32.toNatClampNeg p0))).toInt := congrArg Int32.toInt ((ajV15 56 (Int32.toNatClampNeg p0) rfl).trans (up2_o hV6 (by decide)))
  have r24 : 0 ≤ ((V 56 (Int32.toNatClampNeg p0))).toInt ∧ ((V 56 (Int32.toNatClampNeg p0))).toInt ≤ 1 := hMV 56 (Int32.toNatClampNeg p0)
  have fz8 : (V 0 95).toInt = 0 := r0.2.2.2.2
  have mb9 : ∀ sg t k, mV V15 sg t k = mU (mV V sg t k) 0 1 0 := fun sg t k => mV_beg (show agr [(0, 0), (0, 69), (0, 71), (0, 72), (0, 93), (0, 95), (0, 98)] [] V V15 from (agr.tr (agr.up agr.rf hV6 rfl) ajV15 (by decide) (by decide))) (by decide) (by (first | exact om_b66ba74381d5 t10 | omega)) (by (first | exact om_bb37a0d3ebaf fz t13 | omega))
  refine lv_aload_n hx hb dX12_get_9 rfl (lv_at hl 0 rfl) ?_
  refine va_get (D := D) (ci := 12) (v := .int (V15 0 54)) (C := RX12) (T := TX12) (N := 100) hx hb hg inX12 hown hK hP 0 rfl rfl 54 (by decide) (hg _ w1760) (fun _ h9 => h9) rfl dX12_get_10 ?_
  refine g_top (v := (V 0 54)) ((ajV15 0 54 rfl).trans (up2_k hV6 (by decide))) ?_
  have r25 : 0 ≤ ((V 0 54)).toInt ∧ ((V 0 54)).toInt ≤ 1 := hMV 0 54
  refine lv_if_eq (tgt := 32) hx hb dX12_get_13 (by decide) (fun c26 => ?_) (fun c26 => ?_)
  · skip
    have f27 : ((V 0 54)).toInt = 0 := b_eq rfl (by decide) c26
    refine lv_aload_n hx hb dX12_get_32 rfl (lv_at hl 0 rfl) ?_
    refine lv_aload_n hx hb dX12_get_33 rfl (lv_at hl 0 rfl) ?_
    refine va_get (D := D) (ci := 12) (v := .int (V15 0 54)) (C := RX12) (T := TX12) (N := 100) hx hb hg inX12 hown hK hP 0 rfl rfl 54 (by decide) (hg _ w1760) (fun _ h9 => h9) rfl dX12_get_34 ?_
    refine g_top (v := (V 0 54)) ((ajV15 0 54 rfl).trans (up2_k hV6 (by decide))) ?_
    refine lv_if_ne (tgt := 44) hx hb dX12_get_37 (by decide) (fun c28 => ?_) (fun c28 => ?_)
    · skip
      have f29 : ((V 0 54)).toInt ≠ 0 := b_neq rfl (by decide) c28
      exfalso; (first | exact om_fb320d7600b7 r25.1 f27 f29 | omega)
    · skip
      have f30 : ((V 0 54)).toInt = 0 := b_eq rfl (by decide) c28
      refine lv_iconst (v := 4) hx hb dX12_get_40 (by decide) ?_
      refine lv_goto (tgt := 57) hx hb dX12_get_41 (by decide) ?_
      refine va_put (D := D) (ci := 12) (v := .int 4) (ty := tyX12 70) (C := RX12) (T := TX12) (N := 100) hx hb hg inX12 tyX12 tyX12_ok nmX12 hown hK hP hD hS 0 rfl rfl 70 (by decide) (hg _ w1776) (fun _ h9 => h9) rfl (tyX12_ok 70 (by decide)) rfl rfl (Nat.le_of_ble_eq_true rfl) dX12_get_57 (fun H locs hP hD hS => ?_)
      obtain ⟨V31, hV31⟩ : ∃ z, z = up2 V15 0 70 4 := ⟨_, rfl⟩
      have hP : va_P D vwCl (mw ad kk ks.1 V31 L) H := by rw [hV31]; exact hP
      have hD : va_D A (mw ad kk ks.1 V31 L) := by rw [hV31]; exact hD
      have hMV31 : rgd bM V31 := hMV15.put hV31 (i_full _)
      have agV31 : agr [(0, 0), (0, 60), (0, 65), (0, 68), (0, 69), (0, 70), (0, 71), (0, 72), (0, 73), (0, 76), (0, 90), (0, 91), (0, 92), (0, 93), (0, 95), (0, 96), (0, 98)] [59, 61, 62, 63, 64, 66, 67, 74, 75, 77, 78, 79, 80, 94, 97] V V31 := agV15.up hV31 rfl
      refine lv_iconst (v := (-1)) hx hb dX12_get_60 (by decide) ?_
      have pq32 : (V31 0 65).toInt = ((V 0 65)).toInt := congrArg Int32.toInt ((up2_k hV31 (by decide)).trans ((ajV15 0 65 rfl).trans (up2_k hV6 (by decide))))
      have pq33 : (V31 0 60).toInt = ((V 0 60)).toInt := congrArg Int32.toInt ((up2_k hV31 (by decide)).trans ((ajV15 0 60 rfl).trans (up2_k hV6 (by decide))))
      have pq34 : (V31 0 73).toInt = ((V 0 73)).toInt := congrArg Int32.toInt ((up2_k hV31 (by decide)).trans ((ajV15 0 73 rfl).trans (up2_k hV6 (by decide))))
      have pq35 : (V31 0 76).toInt = ((V 0 76)).toInt := congrArg Int32.toInt ((up2_k hV31 (by decide)).trans ((ajV15 0 76 rfl).trans (up2_k hV6 (by decide))))
      have pq36 : (V31 0 69).toInt = ((V15 0 69)).toInt := congrArg Int32.toInt (up2_k hV31 (by decide))
      have pq37 : (V31 0 95).toInt = ((V15 0 95)).toInt := congrArg Int32.toInt (up2_k hV31 (by decide))
      have fz38 : (V 0 95).toInt = 0 := r0.2.2.2.2
      have r039 : RT0 V31 := RT0.ag r0 hMV (show agr [(0, 0), (0, 69), (0, 70), (0, 71), (0, 72), (0, 93), (0, 95), (0, 98)] [] V V31 from (agr.up (agr.tr (agr.up agr.rf hV6 rfl) ajV15 (by decide) (by decide)) hV31 rfl)) ⟨⟨rfl, fun _ => rfl, fun _ => rfl, fun _ => rfl, fun _ => rfl, fun _ => rfl, fun _ => rfl⟩, by decide, by decide, rfl, rfl, fun _ => rfl, fun _ => rfl, fun _ => rfl⟩ (c0k.ag (show agr [(0, 0), (0, 69), (0, 70), (0, 71), (0, 72), (0, 93), (0, 95), (0, 98)] [] V V31 from (agr.up (agr.tr (agr.up agr.rf hV6 rfl) ajV15 (by decide) (by decide)) hV31 rfl)) rfl) (by (first | exact om_36161e850215 t13 pq37 | omega))
      have pq40 : (V31 0 71).toInt = ((V15 0 71)).toInt := congrArg Int32.toInt (up2_k hV31 (by decide))
      have pq41 : (V31 0 72).toInt = ((V15 0 72)).toInt := congrArg Int32.toInt (up2_k hV31 (by decide))
      exact W.iret (v := (-1)) hx hb hr (fun t ht hW => ⟨⟨(-1), (V31, L), rfl, ⟨hMV31, agV31, rfl, (show (V31 0 65).toInt ≤ (V31 0 60).toInt from by (first | exact om_842ee80c0797 n1 pq32 pq33 | omega)), (show (V31 0 73).toInt - (V31 0 65).toInt ≤ (V 0 73).toInt - (V 0 65).toInt + 300 from by (first | exact om_763a2df3161d pq32 pq34 | omega)), (show (V31 0 76).toInt - (V31 0 69).toInt - (V31 0 73).toInt ≤ (V 0 76).toInt - (V 0 69).toInt - (V 0 73).toInt + 3000 from by (first | exact om_aa2ebae7eb1c r5.2 t10 pq34 pq35 pq36 | omega)), r039, (fun h9 => by have h1 := h9.1; have h2 := h9.2.1.1; have h3 := h9.2.1.2.1; have h4 := h9.2.1.2.2; exfalso; omega), (fun _ => ⟨by decide, by rw [mV_ag (show agr [(0, 70)] [] V15 V31 from (agr.up agr.rf hV31 rfl)) (by decide), mb9], (show (V31 0 71).toInt = 0 from by (first | exact om_36161e850215 t14.1 pq40 | omega)), (show (V31 0 72).toInt = 0 from by (first | exact om_36161e850215 t14.2 pq41 | omega))⟩), (fun h9 => RJm.ag (bkq (by rw [show V 0 54 = V31 0 54 from ((show agr [(0, 0), (0, 69), (0, 70), (0, 71), (0, 72), (0, 93), (0, 95), (0, 98)] [] V V31 from (agr.up (agr.tr (agr.up agr.rf hV6 rfl) ajV15 (by decide) (by decide)) hV31 rfl)) 0 54 rfl).symm]; exact h9)).2.2 (agr.d95 (show agr [(0, 0), (0, 69), (0, 70), (0, 71), (0, 72), (0, 93), (0, 95), (0, 98)] [] V V31 from (agr.up (agr.tr (agr.up agr.rf hV6 rfl) ajV15 (by decide) (by decide)) hV31 rfl)) (show (V31 0 95).toInt = (V 0 95).toInt from by (first | exact om_844449b06c38 fz t13 pq37 | omega))) (by decide))⟩, by rw [ht]; exact hP, va_K.moved hW.alike hK, hD⟩, hS.F ht⟩) hS.2.2 dX12_get_61
  · skip
    have f42 : ((V 0 54)).toInt ≠ 0 := b_neq rfl (by decide) c26
    refine lv_aload_n hx hb dX12_get_16 rfl (lv_at hl 0 rfl) ?_
    refine lv_iload_n hx hb dX12_get_17 rfl (lv_at hl 1 rfl) ?_
    refine gA_int (gA_runV (As := [.int p0]) (rest := []) (ci := 12) (q0 := 0) hx hb hml hown hg hP hD hK hS hA hnw hgk (s_isScope3 l D ks H.size ad kk V15 L p0 hMV15 ) w2223 w2225 w126 w172 w2226 rfl rfl hdV_yX12_isScope ⟨Nat.le_of_ble_eq_true rfl, Nat.le_of_ble_eq_true rfl⟩ rfl hl.1 rfl (Nat.le_of_ble_eq_true rfl) dX12_get_18 ⟨Nat.le_of_ble_eq_true rfl, Nat.le_of_ble_eq_true rfl⟩) hP hD hK hS hA (fun z43 u44 H locs w45 hP hD hK hS => ?_)
    obtain ⟨rgz43, t46⟩ := w45
    have rgz43 : 0 ≤ z43.toInt ∧ z43.toInt ≤ 1 := rgz43
    have t46 : (z43.toInt = 1 ∧ 0 ≤ p0.toInt ∧ p0.toInt < (V15 0 55).toInt ∧ (V15 56 (Int32.toNatClampNeg p0)).toInt = 1) ∨ (z43.toInt = 0 ∧ (p0.toInt < 0 ∨ (V15 0 55).toInt ≤ p0.toInt ∨ (V15 56 (Int32.toNatClampNeg p0)).toInt = 0)) := t46
    refine lv_if_eq (tgt := 32) hx hb dX12_get_21 (by decide) (fun c47 => ?_) (fun c47 => ?_)
    · skip
      have f48 : z43.toInt = 0 := b_eq rfl (by decide) c47
      refine lv_aload_n hx hb dX12_get_32 rfl (lv_at hl 0 rfl) ?_
      refine lv_aload_n hx hb dX12_get_33 rfl (lv_at hl 0 rfl) ?_
      refine va_get (D := D) (ci := 12) (v := .int (V15 0 54)) (C := RX12) (T := TX12) (N := 100) hx hb hg inX12 hown hK hP 0 rfl rfl 54 (by decide) (hg _ w1760) (fun _ h9 => h9) rfl dX12_get_34 ?_
      refine g_top (v := (V 0 54)) ((ajV15 0 54 rfl).trans (up2_k hV6 (by decide))) ?_
      refine lv_if_ne (tgt := 44) hx hb dX12_get_37 (by decide) (fun c49 => ?_) (fun c49 => ?_)
      · skip
        have f50 : ((V 0 54)).toInt ≠ 0 := b_neq rfl (by decide) c49
        refine lv_aload_n hx hb dX12_get_44 rfl (lv_at hl 0 rfl) ?_
        refine lv_iload_n hx hb dX12_get_45 rfl (lv_at hl 1 rfl) ?_
        refine gA_int (gA_runV (As := [.int p0]) (rest := [.ref (ad 0)]) (ci := 12) (q0 := 0) hx hb hml hown hg hP hD hK hS hA hnw hgk (s_isScope3 l D ks H.size ad kk V15 L p0 hMV15 ) w2223 w2225 w126 w172 w2226 rfl rfl hdV_yX12_isScope ⟨Nat.le_of_ble_eq_true rfl, Nat.le_of_ble_eq_true rfl⟩ rfl hl.1 rfl (Nat.le_of_ble_eq_true rfl) dX12_get_46 ⟨Nat.le_of_ble_eq_true rfl, Nat.le_of_ble_eq_true rfl⟩) hP hD hK hS hA (fun z51 u52 H locs w53 hP hD hK hS => ?_)
        obtain ⟨rgz51, t54⟩ := w53
        have rgz51 : 0 ≤ z51.toInt ∧ z51.toInt ≤ 1 := rgz51
        have t54 : (z51.toInt = 1 ∧ 0 ≤ p0.toInt ∧ p0.toInt < (V15 0 55).toInt ∧ (V15 56 (Int32.toNatClampNeg p0)).toInt = 1) ∨ (z51.toInt = 0 ∧ (p0.toInt < 0 ∨ (V15 0 55).toInt ≤ p0.toInt ∨ (V15 56 (Int32.toNatClampNeg p0)).toInt = 0)) := t54
        refine lv_if_ne (tgt := 56) hx hb dX12_get_49 (by decide) (fun c55 => ?_) (fun c55 => ?_)
        · skip
          have f56 : z51.toInt ≠ 0 := b_neq rfl (by decide) c55
          refine lv_iconst (v := 4) hx hb dX12_get_56 (by decide) ?_
          refine va_put (D := D) (ci := 12) (v := .int 4) (ty := tyX12 70) (C := RX12) (T := TX12) (N := 100) hx hb hg inX12 tyX12 tyX12_ok nmX12 hown hK hP hD hS 0 rfl rfl 70 (by decide) (hg _ w1776) (fun _ h9 => h9) rfl (tyX12_ok 70 (by decide)) rfl rfl (Nat.le_of_ble_eq_true rfl) dX12_get_57 (fun H locs hP hD hS => ?_)
          obtain ⟨V57, hV57⟩ : ∃ z, z = up2 V15 0 70 4 := ⟨_, rfl⟩
          have hP : va_P D vwCl (mw ad kk ks.1 V57 L) H := by rw [hV57]; exact hP
          have hD : va_D A (mw ad kk ks.1 V57 L) := by rw [hV57]; exact hD
          have hMV57 : rgd bM V57 := hMV15.put hV57 (i_full _)
          have agV57 : agr [(0, 0), (0, 60), (0, 65), (0, 68), (0, 69), (0, 70), (0, 71), (0, 72), (0, 73), (0, 76), (0, 90), (0, 91), (0, 92), (0, 93), (0, 95), (0, 96), (0, 98)] [59, 61, 62, 63, 64, 66, 67, 74, 75, 77, 78, 79, 80, 94, 97] V V57 := agV15.up hV57 rfl
          refine lv_iconst (v := (-1)) hx hb dX12_get_60 (by decide) ?_
          have pq58 : (V57 0 65).toInt = ((V 0 65)).toInt := congrArg Int32.toInt ((up2_k hV57 (by decide)).trans ((ajV15 0 65 rfl).trans (up2_k hV6 (by decide))))
          have pq59 : (V57 0 60).toInt = ((V 0 60)).toInt := congrArg Int32.toInt ((up2_k hV57 (by decide)).trans ((ajV15 0 60 rfl).trans (up2_k hV6 (by decide))))
          have pq60 : (V57 0 73).toInt = ((V 0 73)).toInt := congrArg Int32.toInt ((up2_k hV57 (by decide)).trans ((ajV15 0 73 rfl).trans (up2_k hV6 (by decide))))
          have pq61 : (V57 0 76).toInt = ((V 0 76)).toInt := congrArg Int32.toInt ((up2_k hV57 (by decide)).trans ((ajV15 0 76 rfl).trans (up2_k hV6 (by decide))))
          have pq62 : (V57 0 69).toInt = ((V15 0 69)).toInt := congrArg Int32.toInt (up2_k hV57 (by decide))
          have pq63 : (V57 0 95).toInt = ((V15 0 95)).toInt := congrArg Int32.toInt (up2_k hV57 (by decide))
          have fz64 : (V 0 95).toInt = 0 := r0.2.2.2.2
          have r065 : RT0 V57 := RT0.ag r0 hMV (show agr [(0, 0), (0, 69), (0, 70), (0, 71), (0, 72), (0, 93), (0, 95), (0, 98)] [] V V57 from (agr.up (agr.tr (agr.up agr.rf hV6 rfl) ajV15 (by decide) (by decide)) hV57 rfl)) ⟨⟨rfl, fun _ => rfl, fun _ => rfl, fun _ => rfl, fun _ => rfl, fun _ => rfl, fun _ => rfl⟩, by decide, by decide, rfl, rfl, fun _ => rfl, fun _ => rfl, fun _ => rfl⟩ (c0k.ag (show agr [(0, 0), (0, 69), (0, 70), (0, 71), (0, 72), (0, 93), (0, 95), (0, 98)] [] V V57 from (agr.up (agr.tr (agr.up agr.rf hV6 rfl) ajV15 (by decide) (by decide)) hV57 rfl)) rfl) (by (first | exact om_36161e850215 t13 pq63 | omega))
          have pq66 : (V57 0 71).toInt = ((V15 0 71)).toInt := congrArg Int32.toInt (up2_k hV57 (by decide))
          have pq67 : (V57 0 72).toInt = ((V15 0 72)).toInt := congrArg Int32.toInt (up2_k hV57 (by decide))
          exact W.iret (v := (-1)) hx hb hr (fun t ht hW => ⟨⟨(-1), (V57, L), rfl, ⟨hMV57, agV57, rfl, (show (V57 0 65).toInt ≤ (V57 0 60).toInt from by (first | exact om_842ee80c0797 n1 pq58 pq59 | omega)), (show (V57 0 73).toInt - (V57 0 65).toInt ≤ (V 0 73).toInt - (V 0 65).toInt + 300 from by (first | exact om_763a2df3161d pq58 pq60 | omega)), (show (V57 0 76).toInt - (V57 0 69).toInt - (V57 0 73).toInt ≤ (V 0 76).toInt - (V 0 69).toInt - (V 0 73).toInt + 3000 from by (first | exact om_aa2ebae7eb1c r5.2 t10 pq60 pq61 pq62 | omega)), r065, (fun h9 => by have h1 := h9.1; have h2 := h9.2.1.1; have h3 := h9.2.1.2.1; have h4 := h9.2.1.2.2; exfalso; omega), (fun _ => ⟨by decide, by rw [mV_ag (show agr [(0, 70)] [] V15 V57 from (agr.up agr.rf hV57 rfl)) (by decide), mb9], (show (V57 0 71).toInt = 0 from by (first | exact om_36161e850215 t14.1 pq66 | omega)), (show (V57 0 72).toInt = 0 from by (first | exact om_36161e850215 t14.2 pq67 | omega))⟩), (fun h9 => RJm.ag (bkq (by rw [show V 0 54 = V57 0 54 from ((show agr [(0, 0), (0, 69), (0, 70), (0, 71), (0, 72), (0, 93), (0, 95), (0, 98)] [] V V57 from (agr.up (agr.tr (agr.up agr.rf hV6 rfl) ajV15 (by decide) (by decide)) hV57 rfl)) 0 54 rfl).symm]; exact h9)).2.2 (agr.d95 (show agr [(0, 0), (0, 69), (0, 70), (0, 71), (0, 72), (0, 93), (0, 95), (0, 98)] [] V V57 from (agr.up (agr.tr (agr.up agr.rf hV6 rfl) ajV15 (by decide) (by decide)) hV57 rfl)) (show (V57 0 95).toInt = (V 0 95).toInt from by (first | exact om_844449b06c38 fz t13 pq63 | omega))) (by decide))⟩, by rw [ht]; exact hP, va_K.moved hW.alike hK, hD⟩, hS.F ht⟩) hS.2.2 dX12_get_61
        · skip
          have f68 : z51.toInt = 0 := b_eq rfl (by decide) c55
          refine lv_iconst (v := 3) hx hb dX12_get_52 (by decide) ?_
          refine lv_goto (tgt := 57) hx hb dX12_get_53 (by decide) ?_
          refine va_put (D := D) (ci := 12) (v := .int 3) (ty := tyX12 70) (C := RX12) (T := TX12) (N := 100) hx hb hg inX12 tyX12 tyX12_ok nmX12 hown hK hP hD hS 0 rfl rfl 70 (by decide) (hg _ w1776) (fun _ h9 => h9) rfl (tyX12_ok 70 (by decide)) rfl rfl (Nat.le_of_ble_eq_true rfl) dX12_get_57 (fun H locs hP hD hS => ?_)
          obtain ⟨V69, hV69⟩ : ∃ z, z = up2 V15 0 70 3 := ⟨_, rfl⟩
          have hP : va_P D vwCl (mw ad kk ks.1 V69 L) H := by rw [hV69]; exact hP
          have hD : va_D A (mw ad kk ks.1 V69 L) := by rw [hV69]; exact hD
          have hMV69 : rgd bM V69 := hMV15.put hV69 (i_full _)
          have agV69 : agr [(0, 0), (0, 60), (0, 65), (0, 68), (0, 69), (0, 70), (0, 71), (0, 72), (0, 73), (0, 76), (0, 90), (0, 91), (0, 92), (0, 93), (0, 95), (0, 96), (0, 98)] [59, 61, 62, 63, 64, 66, 67, 74, 75, 77, 78, 79, 80, 94, 97] V V69 := agV15.up hV69 rfl
          refine lv_iconst (v := (-1)) hx hb dX12_get_60 (by decide) ?_
          have pq70 : (V69 0 65).toInt = ((V 0 65)).toInt := congrArg Int32.toInt ((up2_k hV69 (by decide)).trans ((ajV15 0 65 rfl).trans (up2_k hV6 (by decide))))
          have pq71 : (V69 0 60).toInt = ((V 0 60)).toInt := congrArg Int32.toInt ((up2_k hV69 (by decide)).trans ((ajV15 0 60 rfl).trans (up2_k hV6 (by decide))))
          have pq72 : (V69 0 73).toInt = ((V 0 73)).toInt := congrArg Int32.toInt ((up2_k hV69 (by decide)).trans ((ajV15 0 73 rfl).trans (up2_k hV6 (by decide))))
          have pq73 : (V69 0 76).toInt = ((V 0 76)).toInt := congrArg Int32.toInt ((up2_k hV69 (by decide)).trans ((ajV15 0 76 rfl).trans (up2_k hV6 (by decide))))
          have pq74 : (V69 0 69).toInt = ((V15 0 69)).toInt := congrArg Int32.toInt (up2_k hV69 (by decide))
          have pq75 : (V69 0 95).toInt = ((V15 0 95)).toInt := congrArg Int32.toInt (up2_k hV69 (by decide))
          have fz76 : (V 0 95).toInt = 0 := r0.2.2.2.2
          have r077 : RT0 V69 := RT0.ag r0 hMV (show agr [(0, 0), (0, 69), (0, 70), (0, 71), (0, 72), (0, 93), (0, 95), (0, 98)] [] V V69 from (agr.up (agr.tr (agr.up agr.rf hV6 rfl) ajV15 (by decide) (by decide)) hV69 rfl)) ⟨⟨rfl, fun _ => rfl, fun _ => rfl, fun _ => rfl, fun _ => rfl, fun _ => rfl, fun _ => rfl⟩, by decide, by decide, rfl, rfl, fun _ => rfl, fun _ => rfl, fun _ => rfl⟩ (c0k.ag (show agr [(0, 0), (0, 69), (0, 70), (0, 71), (0, 72), (0, 93), (0, 95), (0, 98)] [] V V69 from (agr.up (agr.tr (agr.up agr.rf hV6 rfl) ajV15 (by decide) (by decide)) hV69 rfl)) rfl) (by (first | exact om_36161e850215 t13 pq75 | omega))
          have pq78 : (V69 0 71).toInt = ((V15 0 71)).toInt := congrArg Int32.toInt (up2_k hV69 (by decide))
          have pq79 : (V69 0 72).toInt = ((V15 0 72)).toInt := congrArg Int32.toInt (up2_k hV69 (by decide))
          exact W.iret (v := (-1)) hx hb hr (fun t ht hW => ⟨⟨(-1), (V69, L), rfl, ⟨hMV69, agV69, rfl, (show (V69 0 65).toInt ≤ (V69 0 60).toInt from by (first | exact om_842ee80c0797 n1 pq70 pq71 | omega)), (show (V69 0 73).toInt - (V69 0 65).toInt ≤ (V 0 73).toInt - (V 0 65).toInt + 300 from by (first | exact om_763a2df3161d pq70 pq72 | omega)), (show (V69 0 76).toInt - (V69 0 69).toInt - (V69 0 73).toInt ≤ (V 0 76).toInt - (V 0 69).toInt - (V 0 73).toInt + 3000 from by (first | exact om_aa2ebae7eb1c r5.2 t10 pq72 pq73 pq74 | omega)), r077, (fun h9 => by have h1 := h9.1; have h2 := h9.2.1.1; have h3 := h9.2.1.2.1; have h4 := h9.2.1.2.2; exfalso; omega), (fun _ => ⟨by decide, by rw [mV_ag (show agr [(0, 70)] [] V15 V69 from (agr.up agr.rf hV69 rfl)) (by decide), mb9], (show (V69 0 71).toInt = 0 from by (first | exact om_36161e850215 t14.1 pq78 | omega)), (show (V69 0 72).toInt = 0 from by (first | exact om_36161e850215 t14.2 pq79 | omega))⟩), (fun h9 => RJm.ag (bkq (by rw [show V 0 54 = V69 0 54 from ((show agr [(0, 0), (0, 69), (0, 70), (0, 71), (0, 72), (0, 93), (0, 95), (0, 98)] [] V V69 from (agr.up (agr.tr (agr.up agr.rf hV6 rfl) ajV15 (by decide) (by decide)) hV69 rfl)) 0 54 rfl).symm]; exact h9)).2.2 (agr.d95 (show agr [(0, 0), (0, 69), (0, 70), (0, 71), (0, 72), (0, 93), (0, 95), (0, 98)] [] V V69 from (agr.up (agr.tr (agr.up agr.rf hV6 rfl) ajV15 (by decide) (by decide)) hV69 rfl)) (show (V69 0 95).toInt = (V 0 95).toInt from by (first | exact om_844449b06c38 fz t13 pq75 | omega))) (by decide))⟩, by rw [ht]; exact hP, va_K.moved hW.alike hK, hD⟩, hS.F ht⟩) hS.2.2 dX12_get_61
      · skip
        have f80 : ((V 0 54)).toInt = 0 := b_eq rfl (by decide) c49
        exfalso; (first | exact om_0abcda13baee r25.1 f42 f80 | omega)
    · skip
      have f81 : z43.toInt ≠ 0 := b_neq rfl (by decide) c47
      refine lv_aload_n hx hb dX12_get_24 rfl (lv_at hl 0 rfl) ?_
      refine lv_iload_n hx hb dX12_get_25 rfl (lv_at hl 2 rfl) ?_
      refine gA_int (gA_runV (As := [.int p1]) (rest := []) (ci := 12) (q0 := 0) hx hb hml hown hg hP hD hK hS hA hnw hgk (s_isThere2 l D ks H.size ad kk V15 L p1 hMV15 ) w2164 w2166 w117 w172 w2167 rfl rfl hdV_yX12_isThere ⟨Nat.le_of_ble_eq_true rfl, Nat.le_of_ble_eq_true rfl⟩ rfl hl.1 rfl (Nat.le_of_ble_eq_true rfl) dX12_get_26 ⟨Nat.le_of_ble_eq_true rfl, Nat.le_of_ble_eq_true rfl⟩) hP hD hK hS hA (fun z82 u83 H locs w84 hP hD hK hS => ?_)
      obtain ⟨rgz82, t85, t86, t87⟩ := w84
      have rgz82 : 0 ≤ z82.toInt ∧ z82.toInt ≤ 1 := rgz82
      have t85 : Imp (z82.toInt = 1) (0 ≤ p1.toInt ∧ p1.toInt ≤ 23) := t85
      have t86 : Imp (z82.toInt = 1) (th V15 (Int32.toNatClampNeg p1)) := t86
      have t87 : Imp (z82.toInt = 0) (0 ≤ p1.toInt → ¬ th V15 (Int32.toNatClampNeg p1)) := t87
      refine lv_if_ne (tgt := 62) hx hb dX12_get_29 (by decide) (fun c88 => ?_) (fun c88 => ?_)
      · skip
        have f89 : z82.toInt ≠ 0 := b_neq rfl (by decide) c88
        have fz90 : (V 0 95).toInt = 0 := r0.2.2.2.2
        have r091 : RT0 V15 := RT0.ag r0 hMV (show agr [(0, 0), (0, 69), (0, 71), (0, 72), (0, 93), (0, 95), (0, 98)] [] V V15 from (agr.tr (agr.up agr.rf hV6 rfl) ajV15 (by decide) (by decide))) ⟨⟨rfl, fun _ => rfl, fun _ => rfl, fun _ => rfl, fun _ => rfl, fun _ => rfl, fun _ => rfl⟩, by decide, by decide, rfl, rfl, fun _ => rfl, fun _ => rfl, fun _ => rfl⟩ (c0k.ag (show agr [(0, 0), (0, 69), (0, 71), (0, 72), (0, 93), (0, 95), (0, 98)] [] V V15 from (agr.tr (agr.up agr.rf hV6 rfl) ajV15 (by decide) (by decide))) rfl) (by (first | exact om_b66ba74381d5 t13 | omega))
        have pq92 : (V15 0 54).toInt = ((V 0 54)).toInt := congrArg Int32.toInt ((ajV15 0 54 rfl).trans (up2_k hV6 (by decide)))
        have rt93 : RT V15 := RT0.rt r091 (by first | exact om_0d50ee23e4c9 r25.1 r25.2 f42 pq92 | first | omega | ((try (have i_t85 := Imp.go t85 (by omega))); omega))
        have bq9 := bkq (by omega)
        have br := bq9.2.1
        have bk := bq9.1
        have rj := bq9.2.2
        have rj7 : RJm V15 gB := RJm.ag rj (agr.d95 (show agr [(0, 0), (0, 69), (0, 71), (0, 72), (0, 93), (0, 95), (0, 98)] [] V V15 from (agr.tr (agr.up agr.rf hV6 rfl) ajV15 (by decide) (by decide))) (by (first | exact om_bb37a0d3ebaf fz t13 | omega))) (by decide)
        have ln0 : ([] : List Fr).length = 0 := rfl
        have tp0 : totP ([] : List Fr) = 0 := rfl
        refine lv_aload_n hx hb dX12_get_62 rfl (lv_at hl 0 rfl) ?_
        refine lv_aload_n hx hb dX12_get_63 rfl (lv_at hl 0 rfl) ?_
        refine lv_iload_n hx hb dX12_get_64 rfl (lv_at hl 2 rfl) ?_
        refine lv_iload_n hx hb dX12_get_65 rfl (lv_at hl 1 rfl) ?_
        have pq94 : (V15 0 65).toInt = ((V 0 65)).toInt := congrArg Int32.toInt ((ajV15 0 65 rfl).trans (up2_k hV6 (by decide)))
        have pq95 : (V15 0 60).toInt = ((V 0 60)).toInt := congrArg Int32.toInt ((ajV15 0 60 rfl).trans (up2_k hV6 (by decide)))
        have pq96 : (V15 0 73).toInt = ((V 0 73)).toInt := congrArg Int32.toInt ((ajV15 0 73 rfl).trans (up2_k hV6 (by decide)))
        have pq97 : (V15 0 76).toInt = ((V 0 76)).toInt := congrArg Int32.toInt ((ajV15 0 76 rfl).trans (up2_k hV6 (by decide)))
        refine gA_int (gA_runV (As := [.int p1, .int p0]) (rest := [.ref (ad 0)]) (ci := 12) (q0 := 0) hx hb hml hown hg hP hD hK hS hA hnw hgk (s_getsWholeDT l D ks H.size ad kk V15 L p1 p0 (gB) (grk) (([] : List Fr)) (0) (0) (0) (0) (0) (0) (p1.toInt) (p0.toInt) (0) (0) hMV15 (by first | exact om_d3435e1acec6 ((Imp.go t85 (imp_a (rgz82.1) (rgz82.2) (f89))).1) ((Imp.go t85 (imp_a (rgz82.1) (rgz82.2) (f89))).2) | first | omega | ((try (have i_t85 := Imp.go t85 (by omega))); omega)) (by first | exact om_9db446ad9706 pq21 r22.2 t46 f81 | first | omega | ((try (have i_t85 := Imp.go t85 (by omega))); omega)) rt93 (show (V15 0 65).toInt ≤ (V15 0 60).toInt from by first | exact om_842ee80c0797 n1 pq94 pq95 | first | omega | ((try (have i_t85 := Imp.go t85 (by omega))); omega)) (show (V15 0 95).toInt ≤ (V15 0 65).toInt from by first | exact om_ff3fc84f1c65 r1.1 t13 pq94 | first | omega | ((try (have i_t85 := Imp.go t85 (by omega))); omega)) (show (V15 0 73).toInt + (V15 0 95).toInt - (V15 0 65).toInt ≤ 999000 from by first | exact om_2b495b26b828 n3 t13 pq94 pq96 | first | omega | ((try (have i_t85 := Imp.go t85 (by omega))); omega)) (show (V15 0 76).toInt - (V15 0 69).toInt - (V15 0 73).toInt ≤ 1000000000 from by first | exact om_879737cb5899 n4 r5.2 t10 pq96 pq97 | first | omega | ((try (have i_t85 := Imp.go t85 (by omega))); omega)) (BKm.ag bk (show agr [(0, 0), (0, 69), (0, 71), (0, 72), (0, 93), (0, 95), (0, 98)] [] V V15 from (agr.tr (agr.up agr.rf hV6 rfl) ajV15 (by decide) (by decide))) (by decide)) br rj7 (fun h9 => absurd h9 (by decide)) (show (((([] : List Fr)).length : Nat) : Int) ≤ 28 * (V15 0 93).toInt from by first | exact om_f3b1e9b55d45 t11 ln0 | first | omega | ((try (have i_t85 := Imp.go t85 (by omega))); omega)) (show ((totP (([] : List Fr)) : Nat) : Int) ≤ 84 * (V15 0 93).toInt from by first | exact om_d0df63d6633c t11 tp0 | first | omega | ((try (have i_t85 := Imp.go t85 (by omega))); omega)) (show (V15 0 98).toInt + 400 * 10 + 30 ≤ 19000 from by first | exact om_060020a18876 t12 | first | omega | ((try (have i_t85 := Imp.go t85 (by omega))); omega)) (Imp.go t86 (by (first | exact om_2ebe32d50835 rgz82.1 rgz82.2 f89 | omega))) (show (V15 0 93).toInt = (0) from by first | exact om_b66ba74381d5 t11 | first | omega | ((try (have i_t85 := Imp.go t85 (by omega))); omega)) (show p1.toInt = (p1.toInt) from by first | exact om_4c2c879c4424 | first | omega | ((try (have i_t85 := Imp.go t85 (by omega))); omega)) (show p0.toInt = (p0.toInt) from by first | exact om_4c2c879c4424 | first | omega | ((try (have i_t85 := Imp.go t85 (by omega))); omega)) (show (V15 0 95).toInt = (0) from by first | exact om_b66ba74381d5 t13 | first | omega | ((try (have i_t85 := Imp.go t85 (by omega))); omega))) w2235 w2237 w128 w172 w2238 rfl rfl hdV_yX12_getsWhole ⟨Nat.le_of_ble_eq_true rfl, Nat.le_of_ble_eq_true rfl⟩ rfl hl.1 rfl (Nat.le_of_ble_eq_true rfl) dX12_get_66 ⟨Nat.le_of_ble_eq_true rfl, Nat.le_of_ble_eq_true rfl⟩) hP hD hK hS hA (fun z98 u99 H locs w100 hP hD hK hS => ?_)
        obtain ⟨V118, L119⟩ := u99
        obtain ⟨hMV118, ajV118, axL119, rgz98, t101, t102, t103, t104, t105, t106, t107, t108, t109, t110, t111, t112, t113, t114, t115, t116, t117⟩ := w100
        have axL119 : L = L119 := Eq.symm axL119
        subst axL119
        have hP : va_P D vwCl (mw ad kk ks.1 V118 L) H := hP
        have hD : va_D A (mw ad kk ks.1 V118 L) := hD
        have hMV118 : rgd bM V118 := hMV118
        have ajV118 : agr [(0, 60), (0, 65), (0, 68), (0, 69), (0, 73), (0, 76), (0, 90), (0, 91), (0, 92), (0, 93), (0, 95), (0, 96), (0, 98)] [59, 61, 62, 63, 64, 66, 67, 74, 75, 77, 78, 79, 80, 94, 97] V15 V118 := ajV118
        have agV118 : agr [(0, 0), (0, 60), (0, 65), (0, 68), (0, 69), (0, 70), (0, 71), (0, 72), (0, 73), (0, 76), (0, 90), (0, 91), (0, 92), (0, 93), (0, 95), (0, 96), (0, 98)] [59, 61, 62, 63, 64, 66, 67, 74, 75, 77, 78, 79, 80, 94, 97] V V118 := agV15.tr ajV118 (by decide) (by decide)
        have rgz98 : 0 ≤ z98.toInt ∧ z98.toInt ≤ 2 := rgz98
        have t101 : (V118 0 93).toInt = (V15 0 93).toInt := t101
        have t102 : (V118 0 98).toInt = (V15 0 98).toInt := t102
        have t103 : (V15 0 60).toInt ≤ (V118 0 60).toInt := t103
        have t104 : (V15 0 65).toInt ≤ (V118 0 65).toInt := t104
        have t105 : (V118 0 65).toInt - (V15 0 65).toInt ≤ (V118 0 60).toInt - (V15 0 60).toInt := t105
        have t106 : (V118 0 73).toInt + (V118 0 95).toInt - (V118 0 65).toInt ≤ (V15 0 73).toInt + (V15 0 95).toInt - (V15 0 65).toInt := t106
        have t107 : (V15 0 73).toInt ≤ (V118 0 73).toInt := t107
        have t108 : (V15 0 69).toInt ≤ (V118 0 69).toInt := t108
        have t109 : (V118 0 95).toInt = (V15 0 95).toInt := t109
        have t110 : (V118 0 76).toInt - (V118 0 69).toInt - (V118 0 73).toInt ≤ (V15 0 76).toInt - (V15 0 69).toInt - (V15 0 73).toInt := t110
        have t111 : Imp (z98.toInt = 0) (0 ≤ (V118 0 92).toInt ∧ (V118 0 92).toInt < (V118 0 60).toInt) := t111
        have t112 : Imp (z98.toInt = 0) ((V118 61 (Int32.toNatClampNeg (V118 0 92))).toInt = p1.toInt ∧ 1 ≤ (V118 63 (Int32.toNatClampNeg (V118 0 92))).toInt) := t112
        have t113 : RT V118 := t113
        have t114 : FRM V15 V118 (-1) := t114
        have t115 : RJm V118 (gB) := t115
        have t116 : PLK V15 V118 (V15 0 98).toInt.toNat := t116
        have t117 : DPc (gB) (mV V15 (0) (0) (0), (0), Froot0 (0) (p1.toInt) (p0.toInt) (0) :: (([] : List Fr))) V118 (([] : List Fr)) z98.toInt (V118 0 92) (24 * (10 - (V15 0 93).toInt) + 23) := t117
        have r120 : 0 ≤ ((V118 0 93)).toInt ∧ ((V118 0 93)).toInt ≤ 10 := hMV118 0 93
        have r121 : 0 ≤ ((V118 0 98)).toInt ∧ ((V118 0 98)).toInt ≤ 20000 := hMV118 0 98
        have r122 : 0 ≤ ((V118 0 60)).toInt ∧ ((V118 0 60)).toInt ≤ 300 := hMV118 0 60
        have r123 : 0 ≤ ((V118 0 65)).toInt ∧ ((V118 0 65)).toInt ≤ 1000000 := hMV118 0 65
        have r124 : 0 ≤ ((V118 0 73)).toInt ∧ ((V118 0 73)).toInt ≤ 1000000 := hMV118 0 73
        have r125 : 0 ≤ ((V118 0 95)).toInt ∧ ((V118 0 95)).toInt ≤ 300 := hMV118 0 95
        have r126 : 0 ≤ ((V118 0 69)).toInt ∧ ((V118 0 69)).toInt ≤ 3000 := hMV118 0 69
        have r127 : 0 ≤ ((V118 0 76)).toInt ∧ ((V118 0 76)).toInt ≤ 2000000000 := hMV118 0 76
        have pq128 : (V118 0 54).toInt = ((V 0 54)).toInt := congrArg Int32.toInt ((ajV118 0 54 rfl).trans ((ajV15 0 54 rfl).trans (up2_k hV6 (by decide))))
        have r0129 : RT0 V118 := RT.r0 t113 (by first | exact om_0d50ee23e4c9 r25.1 r25.2 f42 pq128 | first | omega | ((try (have i_t111 := Imp.go t111 (by omega))); (try (have i_t85 := Imp.go t85 (by omega))); (try (have i_t85 := Imp.go t85 (by omega))); (try (have i_t111 := Imp.go t111 (by omega))); omega)) (by first | exact om_36161e850215 t13 t109 | first | omega | ((try (have i_t111 := Imp.go t111 (by omega))); (try (have i_t85 := Imp.go t85 (by omega))); (try (have i_t85 := Imp.go t85 (by omega))); (try (have i_t111 := Imp.go t111 (by omega))); omega))
        refine gA_int (gA_runV (As := [.int z98]) (rest := []) (ci := 12) (q0 := 0) hx hb hml hown hg hP hD hK hS hA hnw hgk (s_ends3 l D ks H.size ad kk V118 L z98 hMV118 (by first | exact om_8c285ac91b81 rgz98.1 rgz98.2 | first | omega | ((try (have i_t111 := Imp.go t111 (by omega))); (try (have i_t85 := Imp.go t85 (by omega))); (try (have i_t85 := Imp.go t85 (by omega))); (try (have i_t111 := Imp.go t111 (by omega))); omega))) w2332 w2334 w152 w172 w2335 rfl rfl hdV_yX12_ends ⟨Nat.le_of_ble_eq_true rfl, Nat.le_of_ble_eq_true rfl⟩ rfl hl.1 rfl (Nat.le_of_ble_eq_true rfl) dX12_get_69 ⟨Nat.le_of_ble_eq_true rfl, Nat.le_of_ble_eq_true rfl⟩) hP hD hK hS hA (fun z130 u131 H locs w132 hP hD hK hS => ?_)
        obtain ⟨V134, L135⟩ := u131
        obtain ⟨hMV134, ajV134, axL135, rgz130, t133⟩ := w132
        have axL135 : L = L135 := Eq.symm axL135
        subst axL135
        have hP : va_P D vwCl (mw ad kk ks.1 V134 L) H := hP
        have hD : va_D A (mw ad kk ks.1 V134 L) := hD
        have hMV134 : rgd bM V134 := hMV134
        have ajV134 : agr [(0, 70), (0, 71), (0, 72)] [] V118 V134 := ajV134
        have agV134 : agr [(0, 0), (0, 60), (0, 65), (0, 68), (0, 69), (0, 70), (0, 71), (0, 72), (0, 73), (0, 76), (0, 90), (0, 91), (0, 92), (0, 93), (0, 95), (0, 96), (0, 98)] [59, 61, 62, 63, 64, 66, 67, 74, 75, 77, 78, 79, 80, 94, 97] V V134 := agV118.tr ajV134 (by decide) (by decide)
        have rgz130 : 0 ≤ z130.toInt ∧ z130.toInt ≤ 1 := rgz130
        have t133 : (z130.toInt = 1 ∧ z98.toInt = 0 ∧ (V134 0 71).toInt = 0 ∧ (V134 0 72).toInt = 0) ∨ (z130.toInt = 0 ∧ z98.toInt = 1 ∧ (V134 0 71).toInt = (V118 0 90).toInt ∧ (V134 0 72).toInt = (V118 0 91).toInt) ∨ (z130.toInt = 0 ∧ z98.toInt = 2 ∧ (V134 0 71).toInt = 0 ∧ (V134 0 72).toInt = 0) := t133
        refine lv_if_eq (tgt := 82) hx hb dX12_get_72 (by decide) (fun c136 => ?_) (fun c136 => ?_)
        · skip
          have f137 : z130.toInt = 0 := b_eq rfl (by decide) c136
          refine lv_iconst (v := (-1)) hx hb dX12_get_82 (by decide) ?_
          have pq138 : (V134 0 65).toInt = ((V118 0 65)).toInt := congrArg Int32.toInt (ajV134 0 65 rfl)
          have pq139 : (V134 0 60).toInt = ((V118 0 60)).toInt := congrArg Int32.toInt (ajV134 0 60 rfl)
          have pq140 : (V134 0 73).toInt = ((V118 0 73)).toInt := congrArg Int32.toInt (ajV134 0 73 rfl)
          have pq141 : (V134 0 76).toInt = ((V118 0 76)).toInt := congrArg Int32.toInt (ajV134 0 76 rfl)
          have pq142 : (V134 0 69).toInt = ((V118 0 69)).toInt := congrArg Int32.toInt (ajV134 0 69 rfl)
          have pq143 : (V134 0 95).toInt = ((V118 0 95)).toInt := congrArg Int32.toInt (ajV134 0 95 rfl)
          have fz144 : (V118 0 95).toInt = 0 := r0129.2.2.2.2
          have r0145 : RT0 V134 := RT0.ag r0129 hMV118 (show agr [(0, 70), (0, 71), (0, 72)] [] V118 V134 from (agr.tr agr.rf ajV134 (by decide) (by decide))) ⟨⟨rfl, fun _ => rfl, fun _ => rfl, fun _ => rfl, fun _ => rfl, fun _ => rfl, fun _ => rfl⟩, by decide, by decide, rfl, rfl, fun _ => rfl, fun _ => rfl, fun _ => rfl⟩ (c0k.ag (show agr [(0, 70), (0, 71), (0, 72)] [] V118 V134 from (agr.tr agr.rf ajV134 (by decide) (by decide))) rfl) (by (first | exact om_d2e622dc9730 t13 t109 pq143 | omega))
          have gx146 : GEo gB (mU (mV V 0 0 0) 0 1 0, 0, [Froot0 0 p1.toInt p0.toInt 0]) V134 (Int32.toInt (-1)) (-1) := by
            have dp9 := t117
            rw [show (mV V15 0 0 0, (0 : Int32), Froot0 0 p1.toInt p0.toInt 0 :: ([] : List Fr)) = (mU (mV V 0 0 0) 0 1 0, 0, [Froot0 0 p1.toInt p0.toInt 0]) from by rw [mb9]] at dp9
            rcases (show z98.toInt = 0 ∨ z98.toInt = 1 ∨ z98.toInt = 2 from by (first | exact om_e837ad917e1d rgz98.1 rgz98.2 | omega)) with q9 | q9 | q9
            · obtain ⟨t9, k9, h9⟩ := dp9.e0 q9
              exact ⟨1, t9, k9, _, by rw [mV_ag (show agr [(0, 70), (0, 71), (0, 72)] [] V118 V134 from (agr.tr agr.rf ajV134 (by decide) (by decide))) (by decide)]; exact h9, Or.inl ⟨rfl, by exfalso; omega, by omega, by omega⟩⟩
            · obtain ⟨b9, a9, h9⟩ := dp9.e1 q9
              exact ⟨2, _, _, a9, by rw [mV_ag (show agr [(0, 70), (0, 71), (0, 72)] [] V118 V134 from (agr.tr agr.rf ajV134 (by decide) (by decide))) (by decide)]; exact h9, Or.inr (Or.inl ⟨rfl, by decide, by omega, by omega, b9.1⟩)⟩
            · obtain ⟨a9, t9, k9, h9⟩ := dp9.e2 q9
              exact ⟨3, t9, k9, a9, by rw [mV_ag (show agr [(0, 70), (0, 71), (0, 72)] [] V118 V134 from (agr.tr agr.rf ajV134 (by decide) (by decide))) (by decide)]; exact h9, Or.inr (Or.inr ⟨rfl, by decide, by omega, by omega⟩)⟩
          have rj147 : RJm V134 gB := RJm.ag t115 (show agr [(0, 70), (0, 71), (0, 72)] [] V118 V134 from (agr.tr agr.rf ajV134 (by decide) (by decide))) (by decide)
          exact W.iret (v := (-1)) hx hb hr (fun t ht hW => ⟨⟨(-1), (V134, L), rfl, ⟨hMV134, agV134, rfl, (show (V134 0 65).toInt ≤ (V134 0 60).toInt from by first | exact om_90f28cb8bc30 n1 pq94 pq95 t105 pq138 pq139 | first | omega | ((try (have i_t111 := Imp.go t111 (by omega))); (try (have i_t85 := Imp.go t85 (by omega))); (try (have i_t85 := Imp.go t85 (by omega))); (try (have i_t111 := Imp.go t111 (by omega))); omega)), (show (V134 0 73).toInt - (V134 0 65).toInt ≤ (V 0 73).toInt - (V 0 65).toInt + 300 from by first | exact om_8c5a66363f6c pq94 pq96 t106 t109 pq138 pq140 | first | omega | ((try (have i_t111 := Imp.go t111 (by omega))); (try (have i_t85 := Imp.go t85 (by omega))); (try (have i_t85 := Imp.go t85 (by omega))); (try (have i_t111 := Imp.go t111 (by omega))); omega)), (show (V134 0 76).toInt - (V134 0 69).toInt - (V134 0 73).toInt ≤ (V 0 76).toInt - (V 0 69).toInt - (V 0 73).toInt + 3000 from by first | exact om_e40ba0376ced r5.2 t10 pq96 pq97 t110 pq140 pq141 pq142 | first | omega | ((try (have i_t111 := Imp.go t111 (by omega))); (try (have i_t85 := Imp.go t85 (by omega))); (try (have i_t85 := Imp.go t85 (by omega))); (try (have i_t111 := Imp.go t111 (by omega))); omega)), r0145, (fun _ => gx146), (fun h9 => absurd (show (V 0 54).toInt = 1 ∧ (0 ≤ p0.toInt ∧ p0.toInt < (V 0 55).toInt ∧ (V 56 (Int32.toNatClampNeg p0)).toInt = 1) ∧ (0 ≤ p1.toInt ∧ th V (Int32.toNatClampNeg p1)) from ⟨by omega, ⟨by omega, by omega, by omega⟩, (Imp.go t85 (by (first | exact om_2ebe32d50835 rgz82.1 rgz82.2 f89 | omega))).1, th.ga (Imp.go t86 (by (first | exact om_2ebe32d50835 rgz82.1 rgz82.2 f89 | omega))) (show agr [(0, 0), (0, 69), (0, 71), (0, 72), (0, 93), (0, 95), (0, 98)] [] V V15 from (agr.tr (agr.up agr.rf hV6 rfl) ajV15 (by decide) (by decide))) ⟨rfl, fun _ => rfl, fun _ => rfl, fun _ => rfl, fun _ => rfl, fun _ => rfl, fun _ => rfl⟩⟩) h9), (fun _ => rj147)⟩, by rw [ht]; exact hP, va_K.moved hW.alike hK, hD⟩, hS.F ht⟩) hS.2.2 dX12_get_83
        · skip
          have f148 : z130.toInt ≠ 0 := b_neq rfl (by decide) c136
          refine lv_aload_n hx hb dX12_get_75 rfl (lv_at hl 0 rfl) ?_
          refine va_get (D := D) (ci := 12) (v := .int (V134 0 92)) (C := RX12) (T := TX12) (N := 100) hx hb hg inX12 hown hK hP 0 rfl rfl 92 (by decide) (hg _ w1798) (fun _ h9 => h9) rfl dX12_get_76 ?_
          refine g_top (v := (V118 0 92)) (ajV134 0 92 rfl) ?_
          refine lv_goto (tgt := 83) hx hb dX12_get_79 (by decide) ?_
          have pq149 : (V134 0 65).toInt = ((V118 0 65)).toInt := congrArg Int32.toInt (ajV134 0 65 rfl)
          have pq150 : (V134 0 60).toInt = ((V118 0 60)).toInt := congrArg Int32.toInt (ajV134 0 60 rfl)
          have pq151 : (V134 0 73).toInt = ((V118 0 73)).toInt := congrArg Int32.toInt (ajV134 0 73 rfl)
          have pq152 : (V134 0 76).toInt = ((V118 0 76)).toInt := congrArg Int32.toInt (ajV134 0 76 rfl)
          have pq153 : (V134 0 69).toInt = ((V118 0 69)).toInt := congrArg Int32.toInt (ajV134 0 69 rfl)
          have pq154 : (V134 0 95).toInt = ((V118 0 95)).toInt := congrArg Int32.toInt (ajV134 0 95 rfl)
          have fz155 : (V118 0 95).toInt = 0 := r0129.2.2.2.2
          have r0156 : RT0 V134 := RT0.ag r0129 hMV118 (show agr [(0, 70), (0, 71), (0, 72)] [] V118 V134 from (agr.tr agr.rf ajV134 (by decide) (by decide))) ⟨⟨rfl, fun _ => rfl, fun _ => rfl, fun _ => rfl, fun _ => rfl, fun _ => rfl, fun _ => rfl⟩, by decide, by decide, rfl, rfl, fun _ => rfl, fun _ => rfl, fun _ => rfl⟩ (c0k.ag (show agr [(0, 70), (0, 71), (0, 72)] [] V118 V134 from (agr.tr agr.rf ajV134 (by decide) (by decide))) rfl) (by (first | exact om_d2e622dc9730 t13 t109 pq154 | omega))
          have gx157 : GEo gB (mU (mV V 0 0 0) 0 1 0, 0, [Froot0 0 p1.toInt p0.toInt 0]) V134 (((V118 0 92)).toInt) (-1) := by
            have dp9 := t117
            rw [show (mV V15 0 0 0, (0 : Int32), Froot0 0 p1.toInt p0.toInt 0 :: ([] : List Fr)) = (mU (mV V 0 0 0) 0 1 0, 0, [Froot0 0 p1.toInt p0.toInt 0]) from by rw [mb9]] at dp9
            rcases (show z98.toInt = 0 ∨ z98.toInt = 1 ∨ z98.toInt = 2 from by (first | exact om_e837ad917e1d rgz98.1 rgz98.2 | omega)) with q9 | q9 | q9
            · obtain ⟨t9, k9, h9⟩ := dp9.e0 q9
              exact ⟨1, t9, k9, _, by rw [mV_ag (show agr [(0, 70), (0, 71), (0, 72)] [] V118 V134 from (agr.tr agr.rf ajV134 (by decide) (by decide))) (by decide)]; exact h9, Or.inl ⟨rfl, by omega, by omega, by omega⟩⟩
            · obtain ⟨b9, a9, h9⟩ := dp9.e1 q9
              exact ⟨2, _, _, a9, by rw [mV_ag (show agr [(0, 70), (0, 71), (0, 72)] [] V118 V134 from (agr.tr agr.rf ajV134 (by decide) (by decide))) (by decide)]; exact h9, Or.inr (Or.inl ⟨rfl, by exfalso; omega, by omega, by omega, b9.1⟩)⟩
            · obtain ⟨a9, t9, k9, h9⟩ := dp9.e2 q9
              exact ⟨3, t9, k9, a9, by rw [mV_ag (show agr [(0, 70), (0, 71), (0, 72)] [] V118 V134 from (agr.tr agr.rf ajV134 (by decide) (by decide))) (by decide)]; exact h9, Or.inr (Or.inr ⟨rfl, by exfalso; omega, by omega, by omega⟩)⟩
          have rj158 : RJm V134 gB := RJm.ag t115 (show agr [(0, 70), (0, 71), (0, 72)] [] V118 V134 from (agr.tr agr.rf ajV134 (by decide) (by decide))) (by decide)
          exact W.iret (v := (V118 0 92)) hx hb hr (fun t ht hW => ⟨⟨(V118 0 92), (V134, L), rfl, ⟨hMV134, agV134, rfl, (show (V134 0 65).toInt ≤ (V134 0 60).toInt from by first | exact om_90f28cb8bc30 n1 pq94 pq95 t105 pq149 pq150 | first | omega | ((try (have i_t111 := Imp.go t111 (by omega))); (try (have i_t85 := Imp.go t85 (by omega))); (try (have i_t85 := Imp.go t85 (by omega))); (try (have i_t111 := Imp.go t111 (by omega))); omega)), (show (V134 0 73).toInt - (V134 0 65).toInt ≤ (V 0 73).toInt - (V 0 65).toInt + 300 from by first | exact om_8c5a66363f6c pq94 pq96 t106 t109 pq149 pq151 | first | omega | ((try (have i_t111 := Imp.go t111 (by omega))); (try (have i_t85 := Imp.go t85 (by omega))); (try (have i_t85 := Imp.go t85 (by omega))); (try (have i_t111 := Imp.go t111 (by omega))); omega)), (show (V134 0 76).toInt - (V134 0 69).toInt - (V134 0 73).toInt ≤ (V 0 76).toInt - (V 0 69).toInt - (V 0 73).toInt + 3000 from by first | exact om_e40ba0376ced r5.2 t10 pq96 pq97 t110 pq151 pq152 pq153 | first | omega | ((try (have i_t111 := Imp.go t111 (by omega))); (try (have i_t85 := Imp.go t85 (by omega))); (try (have i_t85 := Imp.go t85 (by omega))); (try (have i_t111 := Imp.go t111 (by omega))); omega)), r0156, (fun _ => gx157), (fun h9 => absurd (show (V 0 54).toInt = 1 ∧ (0 ≤ p0.toInt ∧ p0.toInt < (V 0 55).toInt ∧ (V 56 (Int32.toNatClampNeg p0)).toInt = 1) ∧ (0 ≤ p1.toInt ∧ th V (Int32.toNatClampNeg p1)) from ⟨by omega, ⟨by omega, by omega, by omega⟩, (Imp.go t85 (by (first | exact om_2ebe32d50835 rgz82.1 rgz82.2 f89 | omega))).1, th.ga (Imp.go t86 (by (first | exact om_2ebe32d50835 rgz82.1 rgz82.2 f89 | omega))) (show agr [(0, 0), (0, 69), (0, 71), (0, 72), (0, 93), (0, 95), (0, 98)] [] V V15 from (agr.tr (agr.up agr.rf hV6 rfl) ajV15 (by decide) (by decide))) ⟨rfl, fun _ => rfl, fun _ => rfl, fun _ => rfl, fun _ => rfl, fun _ => rfl, fun _ => rfl⟩⟩) h9), (fun _ => rj158)⟩, by rw [ht]; exact hP, va_K.moved hW.alike hK, hD⟩, hS.F ht⟩) hS.2.2 dX12_get_83
      · skip
        have f159 : z82.toInt = 0 := b_eq rfl (by decide) c88
        refine lv_aload_n hx hb dX12_get_32 rfl (lv_at hl 0 rfl) ?_
        refine lv_aload_n hx hb dX12_get_33 rfl (lv_at hl 0 rfl) ?_
        refine va_get (D := D) (ci := 12) (v := .int (V15 0 54)) (C := RX12) (T := TX12) (N := 100) hx hb hg inX12 hown hK hP 0 rfl rfl 54 (by decide) (hg _ w1760) (fun _ h9 => h9) rfl dX12_get_34 ?_
        refine g_top (v := (V 0 54)) ((ajV15 0 54 rfl).trans (up2_k hV6 (by decide))) ?_
        refine lv_if_ne (tgt := 44) hx hb dX12_get_37 (by decide) (fun c160 => ?_) (fun c160 => ?_)
        · skip
          have f161 : ((V 0 54)).toInt ≠ 0 := b_neq rfl (by decide) c160
          refine lv_aload_n hx hb dX12_get_44 rfl (lv_at hl 0 rfl) ?_
          refine lv_iload_n hx hb dX12_get_45 rfl (lv_at hl 1 rfl) ?_
          refine gA_int (gA_runV (As := [.int p0]) (rest := [.ref (ad 0)]) (ci := 12) (q0 := 0) hx hb hml hown hg hP hD hK hS hA hnw hgk (s_isScope3 l D ks H.size ad kk V15 L p0 hMV15 ) w2223 w2225 w126 w172 w2226 rfl rfl hdV_yX12_isScope ⟨Nat.le_of_ble_eq_true rfl, Nat.le_of_ble_eq_true rfl⟩ rfl hl.1 rfl (Nat.le_of_ble_eq_true rfl) dX12_get_46 ⟨Nat.le_of_ble_eq_true rfl, Nat.le_of_ble_eq_true rfl⟩) hP hD hK hS hA (fun z162 u163 H locs w164 hP hD hK hS => ?_)
          obtain ⟨rgz162, t165⟩ := w164
          have rgz162 : 0 ≤ z162.toInt ∧ z162.toInt ≤ 1 := rgz162
          have t165 : (z162.toInt = 1 ∧ 0 ≤ p0.toInt ∧ p0.toInt < (V15 0 55).toInt ∧ (V15 56 (Int32.toNatClampNeg p0)).toInt = 1) ∨ (z162.toInt = 0 ∧ (p0.toInt < 0 ∨ (V15 0 55).toInt ≤ p0.toInt ∨ (V15 56 (Int32.toNatClampNeg p0)).toInt = 0)) := t165
          refine lv_if_ne (tgt := 56) hx hb dX12_get_49 (by decide) (fun c166 => ?_) (fun c166 => ?_)
          · skip
            have f167 : z162.toInt ≠ 0 := b_neq rfl (by decide) c166
            refine lv_iconst (v := 4) hx hb dX12_get_56 (by decide) ?_
            refine va_put (D := D) (ci := 12) (v := .int 4) (ty := tyX12 70) (C := RX12) (T := TX12) (N := 100) hx hb hg inX12 tyX12 tyX12_ok nmX12 hown hK hP hD hS 0 rfl rfl 70 (by decide) (hg _ w1776) (fun _ h9 => h9) rfl (tyX12_ok 70 (by decide)) rfl rfl (Nat.le_of_ble_eq_true rfl) dX12_get_57 (fun H locs hP hD hS => ?_)
            obtain ⟨V168, hV168⟩ : ∃ z, z = up2 V15 0 70 4 := ⟨_, rfl⟩
            have hP : va_P D vwCl (mw ad kk ks.1 V168 L) H := by rw [hV168]; exact hP
            have hD : va_D A (mw ad kk ks.1 V168 L) := by rw [hV168]; exact hD
            have hMV168 : rgd bM V168 := hMV15.put hV168 (i_full _)
            have agV168 : agr [(0, 0), (0, 60), (0, 65), (0, 68), (0, 69), (0, 70), (0, 71), (0, 72), (0, 73), (0, 76), (0, 90), (0, 91), (0, 92), (0, 93), (0, 95), (0, 96), (0, 98)] [59, 61, 62, 63, 64, 66, 67, 74, 75, 77, 78, 79, 80, 94, 97] V V168 := agV15.up hV168 rfl
            refine lv_iconst (v := (-1)) hx hb dX12_get_60 (by decide) ?_
            have pq169 : (V168 0 65).toInt = ((V 0 65)).toInt := congrArg Int32.toInt ((up2_k hV168 (by decide)).trans ((ajV15 0 65 rfl).trans (up2_k hV6 (by decide))))
            have pq170 : (V168 0 60).toInt = ((V 0 60)).toInt := congrArg Int32.toInt ((up2_k hV168 (by decide)).trans ((ajV15 0 60 rfl).trans (up2_k hV6 (by decide))))
            have pq171 : (V168 0 73).toInt = ((V 0 73)).toInt := congrArg Int32.toInt ((up2_k hV168 (by decide)).trans ((ajV15 0 73 rfl).trans (up2_k hV6 (by decide))))
            have pq172 : (V168 0 76).toInt = ((V 0 76)).toInt := congrArg Int32.toInt ((up2_k hV168 (by decide)).trans ((ajV15 0 76 rfl).trans (up2_k hV6 (by decide))))
            have pq173 : (V168 0 69).toInt = ((V15 0 69)).toInt := congrArg Int32.toInt (up2_k hV168 (by decide))
            have pq174 : (V168 0 95).toInt = ((V15 0 95)).toInt := congrArg Int32.toInt (up2_k hV168 (by decide))
            have fz175 : (V 0 95).toInt = 0 := r0.2.2.2.2
            have r0176 : RT0 V168 := RT0.ag r0 hMV (show agr [(0, 0), (0, 69), (0, 70), (0, 71), (0, 72), (0, 93), (0, 95), (0, 98)] [] V V168 from (agr.up (agr.tr (agr.up agr.rf hV6 rfl) ajV15 (by decide) (by decide)) hV168 rfl)) ⟨⟨rfl, fun _ => rfl, fun _ => rfl, fun _ => rfl, fun _ => rfl, fun _ => rfl, fun _ => rfl⟩, by decide, by decide, rfl, rfl, fun _ => rfl, fun _ => rfl, fun _ => rfl⟩ (c0k.ag (show agr [(0, 0), (0, 69), (0, 70), (0, 71), (0, 72), (0, 93), (0, 95), (0, 98)] [] V V168 from (agr.up (agr.tr (agr.up agr.rf hV6 rfl) ajV15 (by decide) (by decide)) hV168 rfl)) rfl) (by (first | exact om_36161e850215 t13 pq174 | omega))
            have pq177 : (V168 0 71).toInt = ((V15 0 71)).toInt := congrArg Int32.toInt (up2_k hV168 (by decide))
            have pq178 : (V168 0 72).toInt = ((V15 0 72)).toInt := congrArg Int32.toInt (up2_k hV168 (by decide))
            exact W.iret (v := (-1)) hx hb hr (fun t ht hW => ⟨⟨(-1), (V168, L), rfl, ⟨hMV168, agV168, rfl, (show (V168 0 65).toInt ≤ (V168 0 60).toInt from by first | exact om_842ee80c0797 n1 pq169 pq170 | first | omega | ((try (have i_t85 := Imp.go t85 (by omega))); omega)), (show (V168 0 73).toInt - (V168 0 65).toInt ≤ (V 0 73).toInt - (V 0 65).toInt + 300 from by first | exact om_763a2df3161d pq169 pq171 | first | omega | ((try (have i_t85 := Imp.go t85 (by omega))); omega)), (show (V168 0 76).toInt - (V168 0 69).toInt - (V168 0 73).toInt ≤ (V 0 76).toInt - (V 0 69).toInt - (V 0 73).toInt + 3000 from by first | exact om_aa2ebae7eb1c r5.2 t10 pq171 pq172 pq173 | first | omega | ((try (have i_t85 := Imp.go t85 (by omega))); omega)), r0176, (fun h9 => by have h1 := h9.1; have h2 := h9.2.1.1; have h3 := h9.2.1.2.1; have h4 := h9.2.1.2.2; exfalso; first | omega | exact (Imp.go t87 (by (first | exact om_b1799fcf2d63 rgz82.1 f159 | omega))) h9.2.2.1 (th.ag h9.2.2.2 (show agr [(0, 0), (0, 69), (0, 71), (0, 72), (0, 93), (0, 95), (0, 98)] [] V V15 from (agr.tr (agr.up agr.rf hV6 rfl) ajV15 (by decide) (by decide))) ⟨rfl, fun _ => rfl, fun _ => rfl, fun _ => rfl, fun _ => rfl, fun _ => rfl, fun _ => rfl⟩)), (fun _ => ⟨by decide, by rw [mV_ag (show agr [(0, 70)] [] V15 V168 from (agr.up agr.rf hV168 rfl)) (by decide), mb9], (show (V168 0 71).toInt = 0 from by (first | exact om_36161e850215 t14.1 pq177 | omega)), (show (V168 0 72).toInt = 0 from by (first | exact om_36161e850215 t14.2 pq178 | omega))⟩), (fun h9 => RJm.ag (bkq (by rw [show V 0 54 = V168 0 54 from ((show agr [(0, 0), (0, 69), (0, 70), (0, 71), (0, 72), (0, 93), (0, 95), (0, 98)] [] V V168 from (agr.up (agr.tr (agr.up agr.rf hV6 rfl) ajV15 (by decide) (by decide)) hV168 rfl)) 0 54 rfl).symm]; exact h9)).2.2 (agr.d95 (show agr [(0, 0), (0, 69), (0, 70), (0, 71), (0, 72), (0, 93), (0, 95), (0, 98)] [] V V168 from (agr.up (agr.tr (agr.up agr.rf hV6 rfl) ajV15 (by decide) (by decide)) hV168 rfl)) (show (V168 0 95).toInt = (V 0 95).toInt from by (first | exact om_844449b06c38 fz t13 pq174 | omega))) (by decide))⟩, by rw [ht]; exact hP, va_K.moved hW.alike hK, hD⟩, hS.F ht⟩) hS.2.2 dX12_get_61
          · skip
            have f179 : z162.toInt = 0 := b_eq rfl (by decide) c166
            refine lv_iconst (v := 3) hx hb dX12_get_52 (by decide) ?_
            refine lv_goto (tgt := 57) hx hb dX12_get_53 (by decide) ?_
            refine va_put (D := D) (ci := 12) (v := .int 3) (ty := tyX12 70) (C := RX12) (T := TX12) (N := 100) hx hb hg inX12 tyX12 tyX12_ok nmX12 hown hK hP hD hS 0 rfl rfl 70 (by decide) (hg _ w1776) (fun _ h9 => h9) rfl (tyX12_ok 70 (by decide)) rfl rfl (Nat.le_of_ble_eq_true rfl) dX12_get_57 (fun H locs hP hD hS => ?_)
            obtain ⟨V180, hV180⟩ : ∃ z, z = up2 V15 0 70 3 := ⟨_, rfl⟩
            have hP : va_P D vwCl (mw ad kk ks.1 V180 L) H := by rw [hV180]; exact hP
            have hD : va_D A (mw ad kk ks.1 V180 L) := by rw [hV180]; exact hD
            have hMV180 : rgd bM V180 := hMV15.put hV180 (i_full _)
            have agV180 : agr [(0, 0), (0, 60), (0, 65), (0, 68), (0, 69), (0, 70), (0, 71), (0, 72), (0, 73), (0, 76), (0, 90), (0, 91), (0, 92), (0, 93), (0, 95), (0, 96), (0, 98)] [59, 61, 62, 63, 64, 66, 67, 74, 75, 77, 78, 79, 80, 94, 97] V V180 := agV15.up hV180 rfl
            refine lv_iconst (v := (-1)) hx hb dX12_get_60 (by decide) ?_
            have pq181 : (V180 0 65).toInt = ((V 0 65)).toInt := congrArg Int32.toInt ((up2_k hV180 (by decide)).trans ((ajV15 0 65 rfl).trans (up2_k hV6 (by decide))))
            have pq182 : (V180 0 60).toInt = ((V 0 60)).toInt := congrArg Int32.toInt ((up2_k hV180 (by decide)).trans ((ajV15 0 60 rfl).trans (up2_k hV6 (by decide))))
            have pq183 : (V180 0 73).toInt = ((V 0 73)).toInt := congrArg Int32.toInt ((up2_k hV180 (by decide)).trans ((ajV15 0 73 rfl).trans (up2_k hV6 (by decide))))
            have pq184 : (V180 0 76).toInt = ((V 0 76)).toInt := congrArg Int32.toInt ((up2_k hV180 (by decide)).trans ((ajV15 0 76 rfl).trans (up2_k hV6 (by decide))))
            have pq185 : (V180 0 69).toInt = ((V15 0 69)).toInt := congrArg Int32.toInt (up2_k hV180 (by decide))
            have pq186 : (V180 0 95).toInt = ((V15 0 95)).toInt := congrArg Int32.toInt (up2_k hV180 (by decide))
            have fz187 : (V 0 95).toInt = 0 := r0.2.2.2.2
            have r0188 : RT0 V180 := RT0.ag r0 hMV (show agr [(0, 0), (0, 69), (0, 70), (0, 71), (0, 72), (0, 93), (0, 95), (0, 98)] [] V V180 from (agr.up (agr.tr (agr.up agr.rf hV6 rfl) ajV15 (by decide) (by decide)) hV180 rfl)) ⟨⟨rfl, fun _ => rfl, fun _ => rfl, fun _ => rfl, fun _ => rfl, fun _ => rfl, fun _ => rfl⟩, by decide, by decide, rfl, rfl, fun _ => rfl, fun _ => rfl, fun _ => rfl⟩ (c0k.ag (show agr [(0, 0), (0, 69), (0, 70), (0, 71), (0, 72), (0, 93), (0, 95), (0, 98)] [] V V180 from (agr.up (agr.tr (agr.up agr.rf hV6 rfl) ajV15 (by decide) (by decide)) hV180 rfl)) rfl) (by (first | exact om_36161e850215 t13 pq186 | omega))
            have pq189 : (V180 0 71).toInt = ((V15 0 71)).toInt := congrArg Int32.toInt (up2_k hV180 (by decide))
            have pq190 : (V180 0 72).toInt = ((V15 0 72)).toInt := congrArg Int32.toInt (up2_k hV180 (by decide))
            exact W.iret (v := (-1)) hx hb hr (fun t ht hW => ⟨⟨(-1), (V180, L), rfl, ⟨hMV180, agV180, rfl, (show (V180 0 65).toInt ≤ (V180 0 60).toInt from by first | exact om_842ee80c0797 n1 pq181 pq182 | first | omega | ((try (have i_t85 := Imp.go t85 (by omega))); omega)), (show (V180 0 73).toInt - (V180 0 65).toInt ≤ (V 0 73).toInt - (V 0 65).toInt + 300 from by first | exact om_763a2df3161d pq181 pq183 | first | omega | ((try (have i_t85 := Imp.go t85 (by omega))); omega)), (show (V180 0 76).toInt - (V180 0 69).toInt - (V180 0 73).toInt ≤ (V 0 76).toInt - (V 0 69).toInt - (V 0 73).toInt + 3000 from by first | exact om_aa2ebae7eb1c r5.2 t10 pq183 pq184 pq185 | first | omega | ((try (have i_t85 := Imp.go t85 (by omega))); omega)), r0188, (fun h9 => by have h1 := h9.1; have h2 := h9.2.1.1; have h3 := h9.2.1.2.1; have h4 := h9.2.1.2.2; exfalso; first | omega | exact (Imp.go t87 (by (first | exact om_b1799fcf2d63 rgz82.1 f159 | omega))) h9.2.2.1 (th.ag h9.2.2.2 (show agr [(0, 0), (0, 69), (0, 71), (0, 72), (0, 93), (0, 95), (0, 98)] [] V V15 from (agr.tr (agr.up agr.rf hV6 rfl) ajV15 (by decide) (by decide))) ⟨rfl, fun _ => rfl, fun _ => rfl, fun _ => rfl, fun _ => rfl, fun _ => rfl, fun _ => rfl⟩)), (fun _ => ⟨by decide, by rw [mV_ag (show agr [(0, 70)] [] V15 V180 from (agr.up agr.rf hV180 rfl)) (by decide), mb9], (show (V180 0 71).toInt = 0 from by (first | exact om_36161e850215 t14.1 pq189 | omega)), (show (V180 0 72).toInt = 0 from by (first | exact om_36161e850215 t14.2 pq190 | omega))⟩), (fun h9 => RJm.ag (bkq (by rw [show V 0 54 = V180 0 54 from ((show agr [(0, 0), (0, 69), (0, 70), (0, 71), (0, 72), (0, 93), (0, 95), (0, 98)] [] V V180 from (agr.up (agr.tr (agr.up agr.rf hV6 rfl) ajV15 (by decide) (by decide)) hV180 rfl)) 0 54 rfl).symm]; exact h9)).2.2 (agr.d95 (show agr [(0, 0), (0, 69), (0, 70), (0, 71), (0, 72), (0, 93), (0, 95), (0, 98)] [] V V180 from (agr.up (agr.tr (agr.up agr.rf hV6 rfl) ajV15 (by decide) (by decide)) hV180 rfl)) (show (V180 0 95).toInt = (V 0 95).toInt from by (first | exact om_844449b06c38 fz t13 pq186 | omega))) (by decide))⟩, by rw [ht]; exact hP, va_K.moved hW.alike hK, hD⟩, hS.F ht⟩) hS.2.2 dX12_get_61
        · skip
          have f191 : ((V 0 54)).toInt = 0 := b_eq rfl (by decide) c160
          exfalso; first | exact om_0abcda13baee r25.1 f42 f191 | first | omega | ((try (have i_t85 := Imp.go t85 (by omega))); omega)
abbrev r_s_call3 : Room := { frames := 1609, cells := 0, slots := 0, locals := 40345 }
abbrev q_s_call3 (D : va_G) (ks : KS) (ad : Nat → Nat) (kk : Nat → ClassId) (V : Vf) (L : Lf) (p0 : Int32) (p1 : Int32) (p2 : Int32) (p3 : Int32) (gB : Bk) (grk : Nat → Nat) (A : Nat → Prop) : Array Value → State → Outcome → State → Prop := va_Qi (fun (r : Int32) (u : Vf × Lf) => rgd bM u.1 ∧ agr [(0, 0), (0, 60), (0, 65), (0, 68), (0, 69), (0, 70), (0, 71), (0, 72), (0, 73), (0, 76), (0, 90), (0, 91), (0, 92), (0, 93), (0, 95), (0, 96), (0, 98)] [59, 61, 62, 63, 64, 66, 67, 74, 75, 77, 78, 79, 80, 94, 97] V u.1 ∧ u.2 = L ∧ ((u.1 0 65).toInt ≤ (u.1 0 60).toInt) ∧ ((u.1 0 73).toInt - (u.1 0 65).toInt ≤ (V 0 73).toInt - (V 0 65).toInt + 300) ∧ ((u.1 0 76).toInt - (u.1 0 69).toInt - (u.1 0 73).toInt ≤ (V 0 76).toInt - (V 0 69).toInt - (V 0 73).toInt + 3000) ∧ (RT0 u.1) ∧ (((V 0 54).toInt = 1 ∧ (0 ≤ p0.toInt ∧ p0.toInt < (V 0 55).toInt ∧ (V 56 (Int32.toNatClampNeg p0)).toInt = 1) ∧ ((0 ≤ p1.toInt ∧ p1.toInt < (V 0 60).toInt ∧ (V 63 (Int32.toNatClampNeg p1)).toInt = 1) ∧ 0 ≤ p2.toInt ∧ p2.toInt < (V 35 (nwh V)).toInt)) → GEo gB (mU (mV V 0 0 0) 0 1 0, 0, [Fcall0 1 p1.toInt (V 61 (Int32.toNatClampNeg p1)).toInt p0.toInt p2.toInt p3]) u.1 r.toInt 0) ∧ (¬ ((V 0 54).toInt = 1 ∧ (0 ≤ p0.toInt ∧ p0.toInt < (V 0 55).toInt ∧ (V 56 (Int32.toNatClampNeg p0)).toInt = 1) ∧ ((0 ≤ p1.toInt ∧ p1.toInt < (V 0 60).toInt ∧ (V 63 (Int32.toNatClampNeg p1)).toInt = 1) ∧ 0 ≤ p2.toInt ∧ p2.toInt < (V 35 (nwh V)).toInt)) → r.toInt = 0 ∧ mV u.1 0 0 0 = mU (mV V 0 0 0) 0 1 0 ∧ (u.1 0 71).toInt = 0 ∧ (u.1 0 72).toInt = 0) ∧ ((u.1 0 54).toInt = 1 → RJm u.1 gB)) (fun u t => gq D A (mw ad kk ks.1 u.1 u.2) (mty kk) t) A
set_option maxHeartbeats 4000000 in
set_option maxRecDepth 100000 in
theorem s_call3 (l : Launch) (D : va_G) (ks : KS) (sz : Nat) (ad : Nat → Nat) (kk : Nat → ClassId) (V : Vf) (L : Lf) (p0 : Int32) (p1 : Int32) (p2 : Int32) (p3 : Int32) (gB : Bk) (grk : Nat → Nat) (hMV : rgd bM V) (r0 : RT0 V) (n1 : (V 0 65).toInt ≤ (V 0 60).toInt) (n3 : (V 0 73).toInt - (V 0 65).toInt ≤ 990000) (n4 : (V 0 76).toInt - (V 0 69).toInt - (V 0 73).toInt ≤ 900000000) (bkq : (V 0 54).toInt = 1 → BKm V gB ∧ BKr gB grk ∧ RJm V gB)  : Met l yX12_call (Cond.code yX12_call cX12_call 6 (some .int) :: GW) r_s_call3 (va_Pc [.ref (ad 0), .int p0, .int p1, .int p2, .int p3] (gp D ks (mw ad kk ks.1 V L) (mty kk) sz)) (q_s_call3 D ks ad kk V L p0 p1 p2 p3 gB grk (va_A (mw ad kk ks.1 V L) sz)) 0 0 (va_A (mw ad kk ks.1 V L) sz) := by
  refine g_met (q_s_call3 D ks ad kk V L p0 p1 p2 p3 gB grk) (by decide) (Nat.le_of_ble_eq_true rfl) ?_
  intro p e s m below meth c A ls H locs hx hb hr hml hown hg hlocks hin hnw hgk hP hK hD hS hA hl
  have hown : s.vm.findClass RX12 = some m.cls := hown
  have hl : lv_has ls 6 [(0, .ref (ad 0)), (1, .int p0), (2, .int p1), (3, .int p2), (4, .int p3)] := hl
  have hP : va_P D vwCl (mw ad kk ks.1 V L) H := hP
  have hD : va_D A (mw ad kk ks.1 V L) := hD
  have hK : va_K D vwCl (mty kk) s := hK
  have agV : agr [(0, 0), (0, 60), (0, 65), (0, 68), (0, 69), (0, 70), (0, 71), (0, 72), (0, 73), (0, 76), (0, 90), (0, 91), (0, 92), (0, 93), (0, 95), (0, 96), (0, 98)] [59, 61, 62, 63, 64, 66, 67, 74, 75, 77, 78, 79, 80, 94, 97] V V := agr.rf
  have r1 : 0 ≤ ((V 0 65)).toInt ∧ ((V 0 65)).toInt ≤ 1000000 := hMV 0 65
  have r2 : 0 ≤ ((V 0 60)).toInt ∧ ((V 0 60)).toInt ≤ 300 := hMV 0 60
  have r3 : 0 ≤ ((V 0 73)).toInt ∧ ((V 0 73)).toInt ≤ 1000000 := hMV 0 73
  have r4 : 0 ≤ ((V 0 76)).toInt ∧ ((V 0 76)).toInt ≤ 2000000000 := hMV 0 76
  have r5 : 0 ≤ ((V 0 69)).toInt ∧ ((V 0 69)).toInt ≤ 3000 := hMV 0 69
  have fz : (V 0 95).toInt = 0 := r0.2.2.2.2
  have hl3 : 0 ≤ (V 0 69).toInt ∧ (V 0 69).toInt ≤ 3000 := hMV 0 69
  refine lv_aload_n hx hb dX12_call_0 rfl (lv_at hl 0 rfl) ?_
  refine lv_iconst (v := 0) hx hb dX12_call_1 (by decide) ?_
  refine va_put (D := D) (ci := 12) (v := .int 0) (ty := tyX12 0) (C := RX12) (T := TX12) (N := 100) hx hb hg inX12 tyX12 tyX12_ok nmX12 hown hK hP hD hS 0 rfl rfl 0 (by decide) (hg _ w1706) (fun _ h9 => h9) rfl (tyX12_ok 0 (by decide)) rfl rfl (Nat.le_of_ble_eq_true rfl) dX12_call_2 (fun H locs hP hD hS => ?_)
  obtain ⟨V6, hV6⟩ : ∃ z, z = up2 V 0 0 0 := ⟨_, rfl⟩
  have hP : va_P D vwCl (mw ad kk ks.1 V6 L) H := by rw [hV6]; exact hP
  have hD : va_D A (mw ad kk ks.1 V6 L) := by rw [hV6]; exact hD
  have hMV6 : rgd bM V6 := hMV.put hV6 (i_full _)
  have agV6 : agr [(0, 0), (0, 60), (0, 65), (0, 68), (0, 69), (0, 70), (0, 71), (0, 72), (0, 73), (0, 76), (0, 90), (0, 91), (0, 92), (0, 93), (0, 95), (0, 96), (0, 98)] [59, 61, 62, 63, 64, 66, 67, 74, 75, 77, 78, 79, 80, 94, 97] V V6 := agV.up hV6 rfl
  refine lv_aload_n hx hb dX12_call_5 rfl (lv_at hl 0 rfl) ?_
  refine gA_void (gA_runV (As := []) (rest := []) (ci := 12) (q0 := 0) hx hb hml hown hg hP hD hK hS hA hnw hgk (s_begins3 l D ks H.size ad kk V6 L  hMV6 ) w2231 w2233 w127 w172 w2234 rfl rfl hdV_yX12_begins_ ⟨Nat.le_of_ble_eq_true rfl, Nat.le_of_ble_eq_true rfl⟩ rfl hl.1 rfl (Nat.le_of_ble_eq_true rfl) dX12_call_6 ⟨Nat.le_of_ble_eq_true rfl, Nat.le_of_ble_eq_true rfl⟩) hP hD hK hS hA (fun u8 H locs w9 hP hD hK hS => ?_)
  obtain ⟨V15, L16⟩ := u8
  obtain ⟨hMV15, ajV15, axL16, t10, t11, t12, t13, t14⟩ := w9
  have axL16 : L = L16 := Eq.symm axL16
  subst axL16
  have hP : va_P D vwCl (mw ad kk ks.1 V15 L) H := hP
  have hD : va_D A (mw ad kk ks.1 V15 L) := hD
  have hMV15 : rgd bM V15 := hMV15
  have ajV15 : agr [(0, 69), (0, 71), (0, 72), (0, 93), (0, 95), (0, 98)] [] V6 V15 := ajV15
  have agV15 : agr [(0, 0), (0, 60), (0, 65), (0, 68), (0, 69), (0, 70), (0, 71), (0, 72), (0, 73), (0, 76), (0, 90), (0, 91), (0, 92), (0, 93), (0, 95), (0, 96), (0, 98)] [59, 61, 62, 63, 64, 66, 67, 74, 75, 77, 78, 79, 80, 94, 97] V V15 := agV6.tr ajV15 (by decide) (by decide)
  have t10 : (V15 0 69).toInt = 0 := t10
  have t11 : (V15 0 93).toInt = 0 := t11
  have t12 : (V15 0 98).toInt = 0 := t12
  have t13 : (V15 0 95).toInt = 0 := t13
  have t14 : (V15 0 71).toInt = 0 ∧ (V15 0 72).toInt = 0 := t14
  have r17 : 0 ≤ ((V15 0 69)).toInt ∧ ((V15 0 69)).toInt ≤ 3000 := hMV15 0 69
  have r18 : 0 ≤ ((V15 0 93)).toInt ∧ ((V15 0 93)).toInt ≤ 10 := hMV15 0 93
  have r19 : 0 ≤ ((V15 0 98)).toInt ∧ ((V15 0 98)).toInt ≤ 20000 := hMV15 0 98
  have r20 : 0 ≤ ((V15 0 95)).toInt ∧ ((V15 0 95)).toInt ≤ 300 := hMV15 0 95
  have pq21 : (V15 0 55).toInt = ((V 0 55)).toInt := congrArg Int32.toInt ((ajV15 0 55 rfl).trans (up2_k hV6 (by decide)))
  have r22 : 1 ≤ ((V 0 55)).toInt ∧ ((V 0 55)).toInt ≤ 40 := hMV 0 55
  have pq23 : (V15 56 (Int32.toNatClampNeg p0)).toInt = ((V 56 (Int32.toNatClampNeg p0))).toInt := congrArg Int32.toInt ((ajV15 56 (Int32.toNatClampNeg p0) rfl).trans (up2_o hV6 (by decide)))
  have r24 : 0 ≤ ((V 56 (Int32.toNatClampNeg p0))).toInt ∧ ((V 56 (Int32.toNatClampNeg p0))).toInt ≤ 1 := hMV 56 (Int32.toNatClampNeg p0)
  have fz8 : (V 0 95).toInt = 0 := r0.2.2.2.2
  have mb9 : ∀ sg t k, mV V15 sg t k = mU (mV V sg t k) 0 1 0 := fun sg t k => mV_beg (show agr [(0, 0), (0, 69), (0, 71), (0, 72), (0, 93), (0, 95), (0, 98)] [] V V15 from (agr.tr (agr.up agr.rf hV6 rfl) ajV15 (by decide) (by decide))) (by decide) (by (first | exact om_b66ba74381d5 t10 | omega)) (by (first | exact om_bb37a0d3ebaf fz t13 | omega))
  have pq25 : (V15 63 (Int32.toNatClampNeg p1)).toInt = ((V 63 (Int32.toNatClampNeg p1))).toInt := congrArg Int32.toInt ((ajV15 63 (Int32.toNatClampNeg p1) rfl).trans (up2_o hV6 (by decide)))
  have r26 : 0 ≤ ((V 63 (Int32.toNatClampNeg p1))).toInt ∧ ((V 63 (Int32.toNatClampNeg p1))).toInt ≤ 2 := hMV 63 (Int32.toNatClampNeg p1)
  have pq27 : (V15 0 60).toInt = ((V 0 60)).toInt := congrArg Int32.toInt ((ajV15 0 60 rfl).trans (up2_k hV6 (by decide)))
  refine lv_aload_n hx hb dX12_call_9 rfl (lv_at hl 0 rfl) ?_
  refine lv_iconst (v := 0) hx hb dX12_call_10 (by decide) ?_
  refine va_put (D := D) (ci := 12) (v := .int 0) (ty := tyX12 76) (C := RX12) (T := TX12) (N := 100) hx hb hg inX12 tyX12 tyX12_ok nmX12 hown hK hP hD hS 0 rfl rfl 76 (by decide) (hg _ w1782) (fun _ h9 => h9) rfl (tyX12_ok 76 (by decide)) rfl rfl (Nat.le_of_ble_eq_true rfl) dX12_call_11 (fun H locs hP hD hS => ?_)
  obtain ⟨V28, hV28⟩ : ∃ z, z = up2 V15 0 76 0 := ⟨_, rfl⟩
  have hP : va_P D vwCl (mw ad kk ks.1 V28 L) H := by rw [hV28]; exact hP
  have hD : va_D A (mw ad kk ks.1 V28 L) := by rw [hV28]; exact hD
  have hMV28 : rgd bM V28 := hMV15.put hV28 (by decide)
  have agV28 : agr [(0, 0), (0, 60), (0, 65), (0, 68), (0, 69), (0, 70), (0, 71), (0, 72), (0, 73), (0, 76), (0, 90), (0, 91), (0, 92), (0, 93), (0, 95), (0, 96), (0, 98)] [59, 61, 62, 63, 64, 66, 67, 74, 75, 77, 78, 79, 80, 94, 97] V V28 := agV15.up hV28 rfl
  refine lv_iload_n hx hb dX12_call_14 rfl (lv_at hl 2 rfl) ?_
  refine lv_if_lt (tgt := 57) hx hb dX12_call_15 (by decide) (fun c29 => ?_) (fun c29 => ?_)
  · skip
    have f30 : p1.toInt < 0 := b_lt rfl (by decide) c29
    refine lv_iconst (v := 0) hx hb dX12_call_57 (by decide) ?_
    refine lv_istore (lv' := [(5, .int 0), (0, .ref (ad 0)), (1, .int p0), (2, .int p1), (3, .int p2), (4, .int p3)]) hx hb dX12_call_58 hl (by decide) rfl (fun ls hl => ?_)
    refine lv_aload_n hx hb dX12_call_60 rfl (lv_at hl 1 rfl) ?_
    refine va_get (D := D) (ci := 12) (v := .int (V28 0 54)) (C := RX12) (T := TX12) (N := 100) hx hb hg inX12 hown hK hP 0 rfl rfl 54 (by decide) (hg _ w1760) (fun _ h9 => h9) rfl dX12_call_61 ?_
    refine g_top (v := (V 0 54)) ((up2_k hV28 (by decide)).trans ((ajV15 0 54 rfl).trans (up2_k hV6 (by decide)))) ?_
    have r31 : 0 ≤ ((V 0 54)).toInt ∧ ((V 0 54)).toInt ≤ 1 := hMV 0 54
    refine lv_if_eq (tgt := 80) hx hb dX12_call_64 (by decide) (fun c32 => ?_) (fun c32 => ?_)
    · skip
      have f33 : ((V 0 54)).toInt = 0 := b_eq rfl (by decide) c32
      refine lv_aload_n hx hb dX12_call_80 rfl (lv_at hl 1 rfl) ?_
      refine lv_aload_n hx hb dX12_call_81 rfl (lv_at hl 1 rfl) ?_
      refine va_get (D := D) (ci := 12) (v := .int (V28 0 54)) (C := RX12) (T := TX12) (N := 100) hx hb hg inX12 hown hK hP 0 rfl rfl 54 (by decide) (hg _ w1760) (fun _ h9 => h9) rfl dX12_call_82 ?_
      refine g_top (v := (V 0 54)) ((up2_k hV28 (by decide)).trans ((ajV15 0 54 rfl).trans (up2_k hV6 (by decide)))) ?_
      refine lv_if_ne (tgt := 92) hx hb dX12_call_85 (by decide) (fun c34 => ?_) (fun c34 => ?_)
      · skip
        have f35 : ((V 0 54)).toInt ≠ 0 := b_neq rfl (by decide) c34
        exfalso; (first | exact om_fb320d7600b7 r31.1 f33 f35 | omega)
      · skip
        have f36 : ((V 0 54)).toInt = 0 := b_eq rfl (by decide) c34
        refine lv_iconst (v := 4) hx hb dX12_call_88 (by decide) ?_
        refine lv_goto (tgt := 105) hx hb dX12_call_89 (by decide) ?_
        refine va_put (D := D) (ci := 12) (v := .int 4) (ty := tyX12 70) (C := RX12) (T := TX12) (N := 100) hx hb hg inX12 tyX12 tyX12_ok nmX12 hown hK hP hD hS 0 rfl rfl 70 (by decide) (hg _ w1776) (fun _ h9 => h9) rfl (tyX12_ok 70 (by decide)) rfl rfl (Nat.le_of_ble_eq_true rfl) dX12_call_105 (fun H locs hP hD hS => ?_)
        obtain ⟨V37, hV37⟩ : ∃ z, z = up2 V28 0 70 4 := ⟨_, rfl⟩
        have hP : va_P D vwCl (mw ad kk ks.1 V37 L) H := by rw [hV37]; exact hP
        have hD : va_D A (mw ad kk ks.1 V37 L) := by rw [hV37]; exact hD
        have hMV37 : rgd bM V37 := hMV28.put hV37 (i_full _)
        have agV37 : agr [(0, 0), (0, 60), (0, 65), (0, 68), (0, 69), (0, 70), (0, 71), (0, 72), (0, 73), (0, 76), (0, 90), (0, 91), (0, 92), (0, 93), (0, 95), (0, 96), (0, 98)] [59, 61, 62, 63, 64, 66, 67, 74, 75, 77, 78, 79, 80, 94, 97] V V37 := agV28.up hV37 rfl
        refine lv_iconst (v := 0) hx hb dX12_call_108 (by decide) ?_
        have pq38 : (V37 0 65).toInt = ((V 0 65)).toInt := congrArg Int32.toInt ((up2_k hV37 (by decide)).trans ((up2_k hV28 (by decide)).trans ((ajV15 0 65 rfl).trans (up2_k hV6 (by decide)))))
        have pq39 : (V37 0 60).toInt = ((V 0 60)).toInt := congrArg Int32.toInt ((up2_k hV37 (by decide)).trans ((up2_k hV28 (by decide)).trans ((ajV15 0 60 rfl).trans (up2_k hV6 (by decide)))))
        have pq40 : (V37 0 73).toInt = ((V 0 73)).toInt := congrArg Int32.toInt ((up2_k hV37 (by decide)).trans ((up2_k hV28 (by decide)).trans ((ajV15 0 73 rfl).trans (up2_k hV6 (by decide)))))
        have pq41 : (V37 0 76).toInt = 0 := (congrArg Int32.toInt ((up2_k hV37 (by decide)).trans (up2_s hV28))).trans (by decide)
        have pq42 : (V37 0 69).toInt = ((V15 0 69)).toInt := congrArg Int32.toInt ((up2_k hV37 (by decide)).trans (up2_k hV28 (by decide)))
        have pq43 : (V37 0 95).toInt = ((V15 0 95)).toInt := congrArg Int32.toInt ((up2_k hV37 (by decide)).trans (up2_k hV28 (by decide)))
        have fz44 : (V 0 95).toInt = 0 := r0.2.2.2.2
        have r045 : RT0 V37 := RT0.ag r0 hMV (show agr [(0, 0), (0, 69), (0, 70), (0, 71), (0, 72), (0, 76), (0, 93), (0, 95), (0, 98)] [] V V37 from (agr.up (agr.up (agr.tr (agr.up agr.rf hV6 rfl) ajV15 (by decide) (by decide)) hV28 rfl) hV37 rfl)) ⟨⟨rfl, fun _ => rfl, fun _ => rfl, fun _ => rfl, fun _ => rfl, fun _ => rfl, fun _ => rfl⟩, by decide, by decide, rfl, rfl, fun _ => rfl, fun _ => rfl, fun _ => rfl⟩ (c0k.ag (show agr [(0, 0), (0, 69), (0, 70), (0, 71), (0, 72), (0, 76), (0, 93), (0, 95), (0, 98)] [] V V37 from (agr.up (agr.up (agr.tr (agr.up agr.rf hV6 rfl) ajV15 (by decide) (by decide)) hV28 rfl) hV37 rfl)) rfl) (by (first | exact om_36161e850215 t13 pq43 | omega))
        have pq46 : (V37 0 71).toInt = ((V15 0 71)).toInt := congrArg Int32.toInt ((up2_k hV37 (by decide)).trans (up2_k hV28 (by decide)))
        have pq47 : (V37 0 72).toInt = ((V15 0 72)).toInt := congrArg Int32.toInt ((up2_k hV37 (by decide)).trans (up2_k hV28 (by decide)))
        exact W.iret (v := 0) hx hb hr (fun t ht hW => ⟨⟨0, (V37, L), rfl, ⟨hMV37, agV37, rfl, (show (V37 0 65).toInt ≤ (V37 0 60).toInt from by (first | exact om_842ee80c0797 n1 pq38 pq39 | omega)), (show (V37 0 73).toInt - (V37 0 65).toInt ≤ (V 0 73).toInt - (V 0 65).toInt + 300 from by (first | exact om_763a2df3161d pq38 pq40 | omega)), (show (V37 0 76).toInt - (V37 0 69).toInt - (V37 0 73).toInt ≤ (V 0 76).toInt - (V 0 69).toInt - (V 0 73).toInt + 3000 from by (first | exact om_b7d0129991c5 r4.1 r5.2 t10 pq40 pq41 pq42 | omega)), r045, (fun h9 => by have h1 := h9.1; have h2 := h9.2.1.1; have h3 := h9.2.1.2.1; have h4 := h9.2.1.2.2; have h5 := h9.2.2.1.1; have h6 := h9.2.2.1.2.1; have h7 := h9.2.2.1.2.2; have h8 := h9.2.2.2.1; have h10 := h9.2.2.2.2; have nw9 : (V 35 (nwh V)).toInt = (V 35 (Int32.toNatClampNeg (V 0 11))).toInt := rfl; exfalso; omega), (fun _ => ⟨by decide, by rw [mV_ag (show agr [(0, 70), (0, 76)] [] V15 V37 from (agr.up (agr.up agr.rf hV28 rfl) hV37 rfl)) (by decide), mb9], (show (V37 0 71).toInt = 0 from by (first | exact om_36161e850215 t14.1 pq46 | omega)), (show (V37 0 72).toInt = 0 from by (first | exact om_36161e850215 t14.2 pq47 | omega))⟩), (fun h9 => RJm.ag (bkq (by rw [show V 0 54 = V37 0 54 from ((show agr [(0, 0), (0, 69), (0, 70), (0, 71), (0, 72), (0, 76), (0, 93), (0, 95), (0, 98)] [] V V37 from (agr.up (agr.up (agr.tr (agr.up agr.rf hV6 rfl) ajV15 (by decide) (by decide)) hV28 rfl) hV37 rfl)) 0 54 rfl).symm]; exact h9)).2.2 (agr.d95 (show agr [(0, 0), (0, 69), (0, 70), (0, 71), (0, 72), (0, 76), (0, 93), (0, 95), (0, 98)] [] V V37 from (agr.up (agr.up (agr.tr (agr.up agr.rf hV6 rfl) ajV15 (by decide) (by decide)) hV28 rfl) hV37 rfl)) (show (V37 0 95).toInt = (V 0 95).toInt from by (first | exact om_844449b06c38 fz t13 pq43 | omega))) (by decide))⟩, by rw [ht]; exact hP, va_K.moved hW.alike hK, hD⟩, hS.F ht⟩) hS.2.2 dX12_call_109
    · skip
      have f48 : ((V 0 54)).toInt ≠ 0 := b_neq rfl (by decide) c32
      refine lv_aload_n hx hb dX12_call_67 rfl (lv_at hl 1 rfl) ?_
      refine lv_iload_n hx hb dX12_call_68 rfl (lv_at hl 2 rfl) ?_
      refine gA_int (gA_runV (As := [.int p0]) (rest := []) (ci := 12) (q0 := 0) hx hb hml hown hg hP hD hK hS hA hnw hgk (s_isScope3 l D ks H.size ad kk V28 L p0 hMV28 ) w2223 w2225 w126 w172 w2226 rfl rfl hdV_yX12_isScope ⟨Nat.le_of_ble_eq_true rfl, Nat.le_of_ble_eq_true rfl⟩ rfl hl.1 rfl (Nat.le_of_ble_eq_true rfl) dX12_call_69 ⟨Nat.le_of_ble_eq_true rfl, Nat.le_of_ble_eq_true rfl⟩) hP hD hK hS hA (fun z49 u50 H locs w51 hP hD hK hS => ?_)
      obtain ⟨rgz49, t52⟩ := w51
      have rgz49 : 0 ≤ z49.toInt ∧ z49.toInt ≤ 1 := rgz49
      have t52 : (z49.toInt = 1 ∧ 0 ≤ p0.toInt ∧ p0.toInt < (V28 0 55).toInt ∧ (V28 56 (Int32.toNatClampNeg p0)).toInt = 1) ∨ (z49.toInt = 0 ∧ (p0.toInt < 0 ∨ (V28 0 55).toInt ≤ p0.toInt ∨ (V28 56 (Int32.toNatClampNeg p0)).toInt = 0)) := t52
      have pq53 : (V28 0 55).toInt = ((V 0 55)).toInt := congrArg Int32.toInt ((up2_k hV28 (by decide)).trans ((ajV15 0 55 rfl).trans (up2_k hV6 (by decide))))
      refine lv_if_eq (tgt := 80) hx hb dX12_call_72 (by decide) (fun c54 => ?_) (fun c54 => ?_)
      · skip
        have f55 : z49.toInt = 0 := b_eq rfl (by decide) c54
        refine lv_aload_n hx hb dX12_call_80 rfl (lv_at hl 1 rfl) ?_
        refine lv_aload_n hx hb dX12_call_81 rfl (lv_at hl 1 rfl) ?_
        refine va_get (D := D) (ci := 12) (v := .int (V28 0 54)) (C := RX12) (T := TX12) (N := 100) hx hb hg inX12 hown hK hP 0 rfl rfl 54 (by decide) (hg _ w1760) (fun _ h9 => h9) rfl dX12_call_82 ?_
        refine g_top (v := (V 0 54)) ((up2_k hV28 (by decide)).trans ((ajV15 0 54 rfl).trans (up2_k hV6 (by decide)))) ?_
        refine lv_if_ne (tgt := 92) hx hb dX12_call_85 (by decide) (fun c56 => ?_) (fun c56 => ?_)
        · skip
          have f57 : ((V 0 54)).toInt ≠ 0 := b_neq rfl (by decide) c56
          refine lv_aload_n hx hb dX12_call_92 rfl (lv_at hl 1 rfl) ?_
          refine lv_iload_n hx hb dX12_call_93 rfl (lv_at hl 2 rfl) ?_
          refine gA_int (gA_runV (As := [.int p0]) (rest := [.ref (ad 0)]) (ci := 12) (q0 := 0) hx hb hml hown hg hP hD hK hS hA hnw hgk (s_isScope3 l D ks H.size ad kk V28 L p0 hMV28 ) w2223 w2225 w126 w172 w2226 rfl rfl hdV_yX12_isScope ⟨Nat.le_of_ble_eq_true rfl, Nat.le_of_ble_eq_true rfl⟩ rfl hl.1 rfl (Nat.le_of_ble_eq_true rfl) dX12_call_94 ⟨Nat.le_of_ble_eq_true rfl, Nat.le_of_ble_eq_true rfl⟩) hP hD hK hS hA (fun z58 u59 H locs w60 hP hD hK hS => ?_)
          obtain ⟨rgz58, t61⟩ := w60
          have rgz58 : 0 ≤ z58.toInt ∧ z58.toInt ≤ 1 := rgz58
          have t61 : (z58.toInt = 1 ∧ 0 ≤ p0.toInt ∧ p0.toInt < (V28 0 55).toInt ∧ (V28 56 (Int32.toNatClampNeg p0)).toInt = 1) ∨ (z58.toInt = 0 ∧ (p0.toInt < 0 ∨ (V28 0 55).toInt ≤ p0.toInt ∨ (V28 56 (Int32.toNatClampNeg p0)).toInt = 0)) := t61
          refine lv_if_ne (tgt := 104) hx hb dX12_call_97 (by decide) (fun c62 => ?_) (fun c62 => ?_)
          · skip
            have f63 : z58.toInt ≠ 0 := b_neq rfl (by decide) c62
            refine lv_iconst (v := 4) hx hb dX12_call_104 (by decide) ?_
            refine va_put (D := D) (ci := 12) (v := .int 4) (ty := tyX12 70) (C := RX12) (T := TX12) (N := 100) hx hb hg inX12 tyX12 tyX12_ok nmX12 hown hK hP hD hS 0 rfl rfl 70 (by decide) (hg _ w1776) (fun _ h9 => h9) rfl (tyX12_ok 70 (by decide)) rfl rfl (Nat.le_of_ble_eq_true rfl) dX12_call_105 (fun H locs hP hD hS => ?_)
            obtain ⟨V64, hV64⟩ : ∃ z, z = up2 V28 0 70 4 := ⟨_, rfl⟩
            have hP : va_P D vwCl (mw ad kk ks.1 V64 L) H := by rw [hV64]; exact hP
            have hD : va_D A (mw ad kk ks.1 V64 L) := by rw [hV64]; exact hD
            have hMV64 : rgd bM V64 := hMV28.put hV64 (i_full _)
            have agV64 : agr [(0, 0), (0, 60), (0, 65), (0, 68), (0, 69), (0, 70), (0, 71), (0, 72), (0, 73), (0, 76), (0, 90), (0, 91), (0, 92), (0, 93), (0, 95), (0, 96), (0, 98)] [59, 61, 62, 63, 64, 66, 67, 74, 75, 77, 78, 79, 80, 94, 97] V V64 := agV28.up hV64 rfl
            refine lv_iconst (v := 0) hx hb dX12_call_108 (by decide) ?_
            have pq65 : (V64 0 65).toInt = ((V 0 65)).toInt := congrArg Int32.toInt ((up2_k hV64 (by decide)).trans ((up2_k hV28 (by decide)).trans ((ajV15 0 65 rfl).trans (up2_k hV6 (by decide)))))
            have pq66 : (V64 0 60).toInt = ((V 0 60)).toInt := congrArg Int32.toInt ((up2_k hV64 (by decide)).trans ((up2_k hV28 (by decide)).trans ((ajV15 0 60 rfl).trans (up2_k hV6 (by decide)))))
            have pq67 : (V64 0 73).toInt = ((V 0 73)).toInt := congrArg Int32.toInt ((up2_k hV64 (by decide)).trans ((up2_k hV28 (by decide)).trans ((ajV15 0 73 rfl).trans (up2_k hV6 (by decide)))))
            have pq68 : (V64 0 76).toInt = 0 := (congrArg Int32.toInt ((up2_k hV64 (by decide)).trans (up2_s hV28))).trans (by decide)
            have pq69 : (V64 0 69).toInt = ((V15 0 69)).toInt := congrArg Int32.toInt ((up2_k hV64 (by decide)).trans (up2_k hV28 (by decide)))
            have pq70 : (V64 0 95).toInt = ((V15 0 95)).toInt := congrArg Int32.toInt ((up2_k hV64 (by decide)).trans (up2_k hV28 (by decide)))
            have fz71 : (V 0 95).toInt = 0 := r0.2.2.2.2
            have r072 : RT0 V64 := RT0.ag r0 hMV (show agr [(0, 0), (0, 69), (0, 70), (0, 71), (0, 72), (0, 76), (0, 93), (0, 95), (0, 98)] [] V V64 from (agr.up (agr.up (agr.tr (agr.up agr.rf hV6 rfl) ajV15 (by decide) (by decide)) hV28 rfl) hV64 rfl)) ⟨⟨rfl, fun _ => rfl, fun _ => rfl, fun _ => rfl, fun _ => rfl, fun _ => rfl, fun _ => rfl⟩, by decide, by decide, rfl, rfl, fun _ => rfl, fun _ => rfl, fun _ => rfl⟩ (c0k.ag (show agr [(0, 0), (0, 69), (0, 70), (0, 71), (0, 72), (0, 76), (0, 93), (0, 95), (0, 98)] [] V V64 from (agr.up (agr.up (agr.tr (agr.up agr.rf hV6 rfl) ajV15 (by decide) (by decide)) hV28 rfl) hV64 rfl)) rfl) (by (first | exact om_36161e850215 t13 pq70 | omega))
            have pq73 : (V28 56 (Int32.toNatClampNeg p0)).toInt = ((V 56 (Int32.toNatClampNeg p0))).toInt := congrArg Int32.toInt ((up2_o hV28 (by decide)).trans ((ajV15 56 (Int32.toNatClampNeg p0) rfl).trans (up2_o hV6 (by decide))))
            have pq74 : (V64 0 71).toInt = ((V15 0 71)).toInt := congrArg Int32.toInt ((up2_k hV64 (by decide)).trans (up2_k hV28 (by decide)))
            have pq75 : (V64 0 72).toInt = ((V15 0 72)).toInt := congrArg Int32.toInt ((up2_k hV64 (by decide)).trans (up2_k hV28 (by decide)))
            exact W.iret (v := 0) hx hb hr (fun t ht hW => ⟨⟨0, (V64, L), rfl, ⟨hMV64, agV64, rfl, (show (V64 0 65).toInt ≤ (V64 0 60).toInt from by (first | exact om_842ee80c0797 n1 pq65 pq66 | omega)), (show (V64 0 73).toInt - (V64 0 65).toInt ≤ (V 0 73).toInt - (V 0 65).toInt + 300 from by (first | exact om_763a2df3161d pq65 pq67 | omega)), (show (V64 0 76).toInt - (V64 0 69).toInt - (V64 0 73).toInt ≤ (V 0 76).toInt - (V 0 69).toInt - (V 0 73).toInt + 3000 from by (first | exact om_b7d0129991c5 r4.1 r5.2 t10 pq67 pq68 pq69 | omega)), r072, (fun h9 => by have h1 := h9.1; have h2 := h9.2.1.1; have h3 := h9.2.1.2.1; have h4 := h9.2.1.2.2; have h5 := h9.2.2.1.1; have h6 := h9.2.2.1.2.1; have h7 := h9.2.2.1.2.2; have h8 := h9.2.2.2.1; have h10 := h9.2.2.2.2; have nw9 : (V 35 (nwh V)).toInt = (V 35 (Int32.toNatClampNeg (V 0 11))).toInt := rfl; exfalso; omega), (fun _ => ⟨by decide, by rw [mV_ag (show agr [(0, 70), (0, 76)] [] V15 V64 from (agr.up (agr.up agr.rf hV28 rfl) hV64 rfl)) (by decide), mb9], (show (V64 0 71).toInt = 0 from by (first | exact om_36161e850215 t14.1 pq74 | omega)), (show (V64 0 72).toInt = 0 from by (first | exact om_36161e850215 t14.2 pq75 | omega))⟩), (fun h9 => RJm.ag (bkq (by rw [show V 0 54 = V64 0 54 from ((show agr [(0, 0), (0, 69), (0, 70), (0, 71), (0, 72), (0, 76), (0, 93), (0, 95), (0, 98)] [] V V64 from (agr.up (agr.up (agr.tr (agr.up agr.rf hV6 rfl) ajV15 (by decide) (by decide)) hV28 rfl) hV64 rfl)) 0 54 rfl).symm]; exact h9)).2.2 (agr.d95 (show agr [(0, 0), (0, 69), (0, 70), (0, 71), (0, 72), (0, 76), (0, 93), (0, 95), (0, 98)] [] V V64 from (agr.up (agr.up (agr.tr (agr.up agr.rf hV6 rfl) ajV15 (by decide) (by decide)) hV28 rfl) hV64 rfl)) (show (V64 0 95).toInt = (V 0 95).toInt from by (first | exact om_844449b06c38 fz t13 pq70 | omega))) (by decide))⟩, by rw [ht]; exact hP, va_K.moved hW.alike hK, hD⟩, hS.F ht⟩) hS.2.2 dX12_call_109
          · skip
            have f76 : z58.toInt = 0 := b_eq rfl (by decide) c62
            refine lv_iconst (v := 3) hx hb dX12_call_100 (by decide) ?_
            refine lv_goto (tgt := 105) hx hb dX12_call_101 (by decide) ?_
            refine va_put (D := D) (ci := 12) (v := .int 3) (ty := tyX12 70) (C := RX12) (T := TX12) (N := 100) hx hb hg inX12 tyX12 tyX12_ok nmX12 hown hK hP hD hS 0 rfl rfl 70 (by decide) (hg _ w1776) (fun _ h9 => h9) rfl (tyX12_ok 70 (by decide)) rfl rfl (Nat.le_of_ble_eq_true rfl) dX12_call_105 (fun H locs hP hD hS => ?_)
            obtain ⟨V77, hV77⟩ : ∃ z, z = up2 V28 0 70 3 := ⟨_, rfl⟩
            have hP : va_P D vwCl (mw ad kk ks.1 V77 L) H := by rw [hV77]; exact hP
            have hD : va_D A (mw ad kk ks.1 V77 L) := by rw [hV77]; exact hD
            have hMV77 : rgd bM V77 := hMV28.put hV77 (i_full _)
            have agV77 : agr [(0, 0), (0, 60), (0, 65), (0, 68), (0, 69), (0, 70), (0, 71), (0, 72), (0, 73), (0, 76), (0, 90), (0, 91), (0, 92), (0, 93), (0, 95), (0, 96), (0, 98)] [59, 61, 62, 63, 64, 66, 67, 74, 75, 77, 78, 79, 80, 94, 97] V V77 := agV28.up hV77 rfl
            refine lv_iconst (v := 0) hx hb dX12_call_108 (by decide) ?_
            have pq78 : (V77 0 65).toInt = ((V 0 65)).toInt := congrArg Int32.toInt ((up2_k hV77 (by decide)).trans ((up2_k hV28 (by decide)).trans ((ajV15 0 65 rfl).trans (up2_k hV6 (by decide)))))
            have pq79 : (V77 0 60).toInt = ((V 0 60)).toInt := congrArg Int32.toInt ((up2_k hV77 (by decide)).trans ((up2_k hV28 (by decide)).trans ((ajV15 0 60 rfl).trans (up2_k hV6 (by decide)))))
            have pq80 : (V77 0 73).toInt = ((V 0 73)).toInt := congrArg Int32.toInt ((up2_k hV77 (by decide)).trans ((up2_k hV28 (by decide)).trans ((ajV15 0 73 rfl).trans (up2_k hV6 (by decide)))))
            have pq81 : (V77 0 76).toInt = 0 := (congrArg Int32.toInt ((up2_k hV77 (by decide)).trans (up2_s hV28))).trans (by decide)
            have pq82 : (V77 0 69).toInt = ((V15 0 69)).toInt := congrArg Int32.toInt ((up2_k hV77 (by decide)).trans (up2_k hV28 (by decide)))
            have pq83 : (V77 0 95).toInt = ((V15 0 95)).toInt := congrArg Int32.toInt ((up2_k hV77 (by decide)).trans (up2_k hV28 (by decide)))
            have fz84 : (V 0 95).toInt = 0 := r0.2.2.2.2
            have r085 : RT0 V77 := RT0.ag r0 hMV (show agr [(0, 0), (0, 69), (0, 70), (0, 71), (0, 72), (0, 76), (0, 93), (0, 95), (0, 98)] [] V V77 from (agr.up (agr.up (agr.tr (agr.up agr.rf hV6 rfl) ajV15 (by decide) (by decide)) hV28 rfl) hV77 rfl)) ⟨⟨rfl, fun _ => rfl, fun _ => rfl, fun _ => rfl, fun _ => rfl, fun _ => rfl, fun _ => rfl⟩, by decide, by decide, rfl, rfl, fun _ => rfl, fun _ => rfl, fun _ => rfl⟩ (c0k.ag (show agr [(0, 0), (0, 69), (0, 70), (0, 71), (0, 72), (0, 76), (0, 93), (0, 95), (0, 98)] [] V V77 from (agr.up (agr.up (agr.tr (agr.up agr.rf hV6 rfl) ajV15 (by decide) (by decide)) hV28 rfl) hV77 rfl)) rfl) (by (first | exact om_36161e850215 t13 pq83 | omega))
            have pq86 : (V28 56 (Int32.toNatClampNeg p0)).toInt = ((V 56 (Int32.toNatClampNeg p0))).toInt := congrArg Int32.toInt ((up2_o hV28 (by decide)).trans ((ajV15 56 (Int32.toNatClampNeg p0) rfl).trans (up2_o hV6 (by decide))))
            have pq87 : (V77 0 71).toInt = ((V15 0 71)).toInt := congrArg Int32.toInt ((up2_k hV77 (by decide)).trans (up2_k hV28 (by decide)))
            have pq88 : (V77 0 72).toInt = ((V15 0 72)).toInt := congrArg Int32.toInt ((up2_k hV77 (by decide)).trans (up2_k hV28 (by decide)))
            exact W.iret (v := 0) hx hb hr (fun t ht hW => ⟨⟨0, (V77, L), rfl, ⟨hMV77, agV77, rfl, (show (V77 0 65).toInt ≤ (V77 0 60).toInt from by (first | exact om_842ee80c0797 n1 pq78 pq79 | omega)), (show (V77 0 73).toInt - (V77 0 65).toInt ≤ (V 0 73).toInt - (V 0 65).toInt + 300 from by (first | exact om_763a2df3161d pq78 pq80 | omega)), (show (V77 0 76).toInt - (V77 0 69).toInt - (V77 0 73).toInt ≤ (V 0 76).toInt - (V 0 69).toInt - (V 0 73).toInt + 3000 from by (first | exact om_b7d0129991c5 r4.1 r5.2 t10 pq80 pq81 pq82 | omega)), r085, (fun h9 => by have h1 := h9.1; have h2 := h9.2.1.1; have h3 := h9.2.1.2.1; have h4 := h9.2.1.2.2; have h5 := h9.2.2.1.1; have h6 := h9.2.2.1.2.1; have h7 := h9.2.2.1.2.2; have h8 := h9.2.2.2.1; have h10 := h9.2.2.2.2; have nw9 : (V 35 (nwh V)).toInt = (V 35 (Int32.toNatClampNeg (V 0 11))).toInt := rfl; exfalso; omega), (fun _ => ⟨by decide, by rw [mV_ag (show agr [(0, 70), (0, 76)] [] V15 V77 from (agr.up (agr.up agr.rf hV28 rfl) hV77 rfl)) (by decide), mb9], (show (V77 0 71).toInt = 0 from by (first | exact om_36161e850215 t14.1 pq87 | omega)), (show (V77 0 72).toInt = 0 from by (first | exact om_36161e850215 t14.2 pq88 | omega))⟩), (fun h9 => RJm.ag (bkq (by rw [show V 0 54 = V77 0 54 from ((show agr [(0, 0), (0, 69), (0, 70), (0, 71), (0, 72), (0, 76), (0, 93), (0, 95), (0, 98)] [] V V77 from (agr.up (agr.up (agr.tr (agr.up agr.rf hV6 rfl) ajV15 (by decide) (by decide)) hV28 rfl) hV77 rfl)) 0 54 rfl).symm]; exact h9)).2.2 (agr.d95 (show agr [(0, 0), (0, 69), (0, 70), (0, 71), (0, 72), (0, 76), (0, 93), (0, 95), (0, 98)] [] V V77 from (agr.up (agr.up (agr.tr (agr.up agr.rf hV6 rfl) ajV15 (by decide) (by decide)) hV28 rfl) hV77 rfl)) (show (V77 0 95).toInt = (V 0 95).toInt from by (first | exact om_844449b06c38 fz t13 pq83 | omega))) (by decide))⟩, by rw [ht]; exact hP, va_K.moved hW.alike hK, hD⟩, hS.F ht⟩) hS.2.2 dX12_call_109
        · skip
          have f89 : ((V 0 54)).toInt = 0 := b_eq rfl (by decide) c56
          exfalso; (first | exact om_0abcda13baee r31.1 f48 f89 | omega)
      · skip
        have f90 : z49.toInt ≠ 0 := b_neq rfl (by decide) c54
        refine lv_iload hx hb dX12_call_75 (lv_at hl 0 rfl) ?_
        refine lv_if_ne (tgt := 110) hx hb dX12_call_77 (by decide) (fun q => absurd rfl q) (fun _ => ?_)
        refine lv_aload_n hx hb dX12_call_80 rfl (lv_at hl 1 rfl) ?_
        refine lv_aload_n hx hb dX12_call_81 rfl (lv_at hl 1 rfl) ?_
        refine va_get (D := D) (ci := 12) (v := .int (V28 0 54)) (C := RX12) (T := TX12) (N := 100) hx hb hg inX12 hown hK hP 0 rfl rfl 54 (by decide) (hg _ w1760) (fun _ h9 => h9) rfl dX12_call_82 ?_
        refine g_top (v := (V 0 54)) ((up2_k hV28 (by decide)).trans ((ajV15 0 54 rfl).trans (up2_k hV6 (by decide)))) ?_
        refine lv_if_ne (tgt := 92) hx hb dX12_call_85 (by decide) (fun c91 => ?_) (fun c91 => ?_)
        · skip
          have f92 : ((V 0 54)).toInt ≠ 0 := b_neq rfl (by decide) c91
          refine lv_aload_n hx hb dX12_call_92 rfl (lv_at hl 1 rfl) ?_
          refine lv_iload_n hx hb dX12_call_93 rfl (lv_at hl 2 rfl) ?_
          refine gA_int (gA_runV (As := [.int p0]) (rest := [.ref (ad 0)]) (ci := 12) (q0 := 0) hx hb hml hown hg hP hD hK hS hA hnw hgk (s_isScope3 l D ks H.size ad kk V28 L p0 hMV28 ) w2223 w2225 w126 w172 w2226 rfl rfl hdV_yX12_isScope ⟨Nat.le_of_ble_eq_true rfl, Nat.le_of_ble_eq_true rfl⟩ rfl hl.1 rfl (Nat.le_of_ble_eq_true rfl) dX12_call_94 ⟨Nat.le_of_ble_eq_true rfl, Nat.le_of_ble_eq_true rfl⟩) hP hD hK hS hA (fun z93 u94 H locs w95 hP hD hK hS => ?_)
          obtain ⟨rgz93, t96⟩ := w95
          have rgz93 : 0 ≤ z93.toInt ∧ z93.toInt ≤ 1 := rgz93
          have t96 : (z93.toInt = 1 ∧ 0 ≤ p0.toInt ∧ p0.toInt < (V28 0 55).toInt ∧ (V28 56 (Int32.toNatClampNeg p0)).toInt = 1) ∨ (z93.toInt = 0 ∧ (p0.toInt < 0 ∨ (V28 0 55).toInt ≤ p0.toInt ∨ (V28 56 (Int32.toNatClampNeg p0)).toInt = 0)) := t96
          refine lv_if_ne (tgt := 104) hx hb dX12_call_97 (by decide) (fun c97 => ?_) (fun c97 => ?_)
          · skip
            have f98 : z93.toInt ≠ 0 := b_neq rfl (by decide) c97
            refine lv_iconst (v := 4) hx hb dX12_call_104 (by decide) ?_
            refine va_put (D := D) (ci := 12) (v := .int 4) (ty := tyX12 70) (C := RX12) (T := TX12) (N := 100) hx hb hg inX12 tyX12 tyX12_ok nmX12 hown hK hP hD hS 0 rfl rfl 70 (by decide) (hg _ w1776) (fun _ h9 => h9) rfl (tyX12_ok 70 (by decide)) rfl rfl (Nat.le_of_ble_eq_true rfl) dX12_call_105 (fun H locs hP hD hS => ?_)
            obtain ⟨V99, hV99⟩ : ∃ z, z = up2 V28 0 70 4 := ⟨_, rfl⟩
            have hP : va_P D vwCl (mw ad kk ks.1 V99 L) H := by rw [hV99]; exact hP
            have hD : va_D A (mw ad kk ks.1 V99 L) := by rw [hV99]; exact hD
            have hMV99 : rgd bM V99 := hMV28.put hV99 (i_full _)
            have agV99 : agr [(0, 0), (0, 60), (0, 65), (0, 68), (0, 69), (0, 70), (0, 71), (0, 72), (0, 73), (0, 76), (0, 90), (0, 91), (0, 92), (0, 93), (0, 95), (0, 96), (0, 98)] [59, 61, 62, 63, 64, 66, 67, 74, 75, 77, 78, 79, 80, 94, 97] V V99 := agV28.up hV99 rfl
            refine lv_iconst (v := 0) hx hb dX12_call_108 (by decide) ?_
            have pq100 : (V99 0 65).toInt = ((V 0 65)).toInt := congrArg Int32.toInt ((up2_k hV99 (by decide)).trans ((up2_k hV28 (by decide)).trans ((ajV15 0 65 rfl).trans (up2_k hV6 (by decide)))))
            have pq101 : (V99 0 60).toInt = ((V 0 60)).toInt := congrArg Int32.toInt ((up2_k hV99 (by decide)).trans ((up2_k hV28 (by decide)).trans ((ajV15 0 60 rfl).trans (up2_k hV6 (by decide)))))
            have pq102 : (V99 0 73).toInt = ((V 0 73)).toInt := congrArg Int32.toInt ((up2_k hV99 (by decide)).trans ((up2_k hV28 (by decide)).trans ((ajV15 0 73 rfl).trans (up2_k hV6 (by decide)))))
            have pq103 : (V99 0 76).toInt = 0 := (congrArg Int32.toInt ((up2_k hV99 (by decide)).trans (up2_s hV28))).trans (by decide)
            have pq104 : (V99 0 69).toInt = ((V15 0 69)).toInt := congrArg Int32.toInt ((up2_k hV99 (by decide)).trans (up2_k hV28 (by decide)))
            have pq105 : (V99 0 95).toInt = ((V15 0 95)).toInt := congrArg Int32.toInt ((up2_k hV99 (by decide)).trans (up2_k hV28 (by decide)))
            have fz106 : (V 0 95).toInt = 0 := r0.2.2.2.2
            have r0107 : RT0 V99 := RT0.ag r0 hMV (show agr [(0, 0), (0, 69), (0, 70), (0, 71), (0, 72), (0, 76), (0, 93), (0, 95), (0, 98)] [] V V99 from (agr.up (agr.up (agr.tr (agr.up agr.rf hV6 rfl) ajV15 (by decide) (by decide)) hV28 rfl) hV99 rfl)) ⟨⟨rfl, fun _ => rfl, fun _ => rfl, fun _ => rfl, fun _ => rfl, fun _ => rfl, fun _ => rfl⟩, by decide, by decide, rfl, rfl, fun _ => rfl, fun _ => rfl, fun _ => rfl⟩ (c0k.ag (show agr [(0, 0), (0, 69), (0, 70), (0, 71), (0, 72), (0, 76), (0, 93), (0, 95), (0, 98)] [] V V99 from (agr.up (agr.up (agr.tr (agr.up agr.rf hV6 rfl) ajV15 (by decide) (by decide)) hV28 rfl) hV99 rfl)) rfl) (by (first | exact om_36161e850215 t13 pq105 | omega))
            have pq108 : (V28 56 (Int32.toNatClampNeg p0)).toInt = ((V 56 (Int32.toNatClampNeg p0))).toInt := congrArg Int32.toInt ((up2_o hV28 (by decide)).trans ((ajV15 56 (Int32.toNatClampNeg p0) rfl).trans (up2_o hV6 (by decide))))
            have pq109 : (V99 0 71).toInt = ((V15 0 71)).toInt := congrArg Int32.toInt ((up2_k hV99 (by decide)).trans (up2_k hV28 (by decide)))
            have pq110 : (V99 0 72).toInt = ((V15 0 72)).toInt := congrArg Int32.toInt ((up2_k hV99 (by decide)).trans (up2_k hV28 (by decide)))
            exact W.iret (v := 0) hx hb hr (fun t ht hW => ⟨⟨0, (V99, L), rfl, ⟨hMV99, agV99, rfl, (show (V99 0 65).toInt ≤ (V99 0 60).toInt from by (first | exact om_842ee80c0797 n1 pq100 pq101 | omega)), (show (V99 0 73).toInt - (V99 0 65).toInt ≤ (V 0 73).toInt - (V 0 65).toInt + 300 from by (first | exact om_763a2df3161d pq100 pq102 | omega)), (show (V99 0 76).toInt - (V99 0 69).toInt - (V99 0 73).toInt ≤ (V 0 76).toInt - (V 0 69).toInt - (V 0 73).toInt + 3000 from by (first | exact om_b7d0129991c5 r4.1 r5.2 t10 pq102 pq103 pq104 | omega)), r0107, (fun h9 => by have h1 := h9.1; have h2 := h9.2.1.1; have h3 := h9.2.1.2.1; have h4 := h9.2.1.2.2; have h5 := h9.2.2.1.1; have h6 := h9.2.2.1.2.1; have h7 := h9.2.2.1.2.2; have h8 := h9.2.2.2.1; have h10 := h9.2.2.2.2; have nw9 : (V 35 (nwh V)).toInt = (V 35 (Int32.toNatClampNeg (V 0 11))).toInt := rfl; exfalso; omega), (fun _ => ⟨by decide, by rw [mV_ag (show agr [(0, 70), (0, 76)] [] V15 V99 from (agr.up (agr.up agr.rf hV28 rfl) hV99 rfl)) (by decide), mb9], (show (V99 0 71).toInt = 0 from by (first | exact om_36161e850215 t14.1 pq109 | omega)), (show (V99 0 72).toInt = 0 from by (first | exact om_36161e850215 t14.2 pq110 | omega))⟩), (fun h9 => RJm.ag (bkq (by rw [show V 0 54 = V99 0 54 from ((show agr [(0, 0), (0, 69), (0, 70), (0, 71), (0, 72), (0, 76), (0, 93), (0, 95), (0, 98)] [] V V99 from (agr.up (agr.up (agr.tr (agr.up agr.rf hV6 rfl) ajV15 (by decide) (by decide)) hV28 rfl) hV99 rfl)) 0 54 rfl).symm]; exact h9)).2.2 (agr.d95 (show agr [(0, 0), (0, 69), (0, 70), (0, 71), (0, 72), (0, 76), (0, 93), (0, 95), (0, 98)] [] V V99 from (agr.up (agr.up (agr.tr (agr.up agr.rf hV6 rfl) ajV15 (by decide) (by decide)) hV28 rfl) hV99 rfl)) (show (V99 0 95).toInt = (V 0 95).toInt from by (first | exact om_844449b06c38 fz t13 pq105 | omega))) (by decide))⟩, by rw [ht]; exact hP, va_K.moved hW.alike hK, hD⟩, hS.F ht⟩) hS.2.2 dX12_call_109
          · skip
            have f111 : z93.toInt = 0 := b_eq rfl (by decide) c97
            refine lv_iconst (v := 3) hx hb dX12_call_100 (by decide) ?_
            refine lv_goto (tgt := 105) hx hb dX12_call_101 (by decide) ?_
            refine va_put (D := D) (ci := 12) (v := .int 3) (ty := tyX12 70) (C := RX12) (T := TX12) (N := 100) hx hb hg inX12 tyX12 tyX12_ok nmX12 hown hK hP hD hS 0 rfl rfl 70 (by decide) (hg _ w1776) (fun _ h9 => h9) rfl (tyX12_ok 70 (by decide)) rfl rfl (Nat.le_of_ble_eq_true rfl) dX12_call_105 (fun H locs hP hD hS => ?_)
            obtain ⟨V112, hV112⟩ : ∃ z, z = up2 V28 0 70 3 := ⟨_, rfl⟩
            have hP : va_P D vwCl (mw ad kk ks.1 V112 L) H := by rw [hV112]; exact hP
            have hD : va_D A (mw ad kk ks.1 V112 L) := by rw [hV112]; exact hD
            have hMV112 : rgd bM V112 := hMV28.put hV112 (i_full _)
            have agV112 : agr [(0, 0), (0, 60), (0, 65), (0, 68), (0, 69), (0, 70), (0, 71), (0, 72), (0, 73), (0, 76), (0, 90), (0, 91), (0, 92), (0, 93), (0, 95), (0, 96), (0, 98)] [59, 61, 62, 63, 64, 66, 67, 74, 75, 77, 78, 79, 80, 94, 97] V V112 := agV28.up hV112 rfl
            refine lv_iconst (v := 0) hx hb dX12_call_108 (by decide) ?_
            have pq113 : (V112 0 65).toInt = ((V 0 65)).toInt := congrArg Int32.toInt ((up2_k hV112 (by decide)).trans ((up2_k hV28 (by decide)).trans ((ajV15 0 65 rfl).trans (up2_k hV6 (by decide)))))
            have pq114 : (V112 0 60).toInt = ((V 0 60)).toInt := congrArg Int32.toInt ((up2_k hV112 (by decide)).trans ((up2_k hV28 (by decide)).trans ((ajV15 0 60 rfl).trans (up2_k hV6 (by decide)))))
            have pq115 : (V112 0 73).toInt = ((V 0 73)).toInt := congrArg Int32.toInt ((up2_k hV112 (by decide)).trans ((up2_k hV28 (by decide)).trans ((ajV15 0 73 rfl).trans (up2_k hV6 (by decide)))))
            have pq116 : (V112 0 76).toInt = 0 := (congrArg Int32.toInt ((up2_k hV112 (by decide)).trans (up2_s hV28))).trans (by decide)
            have pq117 : (V112 0 69).toInt = ((V15 0 69)).toInt := congrArg Int32.toInt ((up2_k hV112 (by decide)).trans (up2_k hV28 (by decide)))
            have pq118 : (V112 0 95).toInt = ((V15 0 95)).toInt := congrArg Int32.toInt ((up2_k hV112 (by decide)).trans (up2_k hV28 (by decide)))
            have fz119 : (V 0 95).toInt = 0 := r0.2.2.2.2
            have r0120 : RT0 V112 := RT0.ag r0 hMV (show agr [(0, 0), (0, 69), (0, 70), (0, 71), (0, 72), (0, 76), (0, 93), (0, 95), (0, 98)] [] V V112 from (agr.up (agr.up (agr.tr (agr.up agr.rf hV6 rfl) ajV15 (by decide) (by decide)) hV28 rfl) hV112 rfl)) ⟨⟨rfl, fun _ => rfl, fun _ => rfl, fun _ => rfl, fun _ => rfl, fun _ => rfl, fun _ => rfl⟩, by decide, by decide, rfl, rfl, fun _ => rfl, fun _ => rfl, fun _ => rfl⟩ (c0k.ag (show agr [(0, 0), (0, 69), (0, 70), (0, 71), (0, 72), (0, 76), (0, 93), (0, 95), (0, 98)] [] V V112 from (agr.up (agr.up (agr.tr (agr.up agr.rf hV6 rfl) ajV15 (by decide) (by decide)) hV28 rfl) hV112 rfl)) rfl) (by (first | exact om_36161e850215 t13 pq118 | omega))
            have pq121 : (V28 56 (Int32.toNatClampNeg p0)).toInt = ((V 56 (Int32.toNatClampNeg p0))).toInt := congrArg Int32.toInt ((up2_o hV28 (by decide)).trans ((ajV15 56 (Int32.toNatClampNeg p0) rfl).trans (up2_o hV6 (by decide))))
            have pq122 : (V112 0 71).toInt = ((V15 0 71)).toInt := congrArg Int32.toInt ((up2_k hV112 (by decide)).trans (up2_k hV28 (by decide)))
            have pq123 : (V112 0 72).toInt = ((V15 0 72)).toInt := congrArg Int32.toInt ((up2_k hV112 (by decide)).trans (up2_k hV28 (by decide)))
            exact W.iret (v := 0) hx hb hr (fun t ht hW => ⟨⟨0, (V112, L), rfl, ⟨hMV112, agV112, rfl, (show (V112 0 65).toInt ≤ (V112 0 60).toInt from by (first | exact om_842ee80c0797 n1 pq113 pq114 | omega)), (show (V112 0 73).toInt - (V112 0 65).toInt ≤ (V 0 73).toInt - (V 0 65).toInt + 300 from by (first | exact om_763a2df3161d pq113 pq115 | omega)), (show (V112 0 76).toInt - (V112 0 69).toInt - (V112 0 73).toInt ≤ (V 0 76).toInt - (V 0 69).toInt - (V 0 73).toInt + 3000 from by (first | exact om_b7d0129991c5 r4.1 r5.2 t10 pq115 pq116 pq117 | omega)), r0120, (fun h9 => by have h1 := h9.1; have h2 := h9.2.1.1; have h3 := h9.2.1.2.1; have h4 := h9.2.1.2.2; have h5 := h9.2.2.1.1; have h6 := h9.2.2.1.2.1; have h7 := h9.2.2.1.2.2; have h8 := h9.2.2.2.1; have h10 := h9.2.2.2.2; have nw9 : (V 35 (nwh V)).toInt = (V 35 (Int32.toNatClampNeg (V 0 11))).toInt := rfl; exfalso; omega), (fun _ => ⟨by decide, by rw [mV_ag (show agr [(0, 70), (0, 76)] [] V15 V112 from (agr.up (agr.up agr.rf hV28 rfl) hV112 rfl)) (by decide), mb9], (show (V112 0 71).toInt = 0 from by (first | exact om_36161e850215 t14.1 pq122 | omega)), (show (V112 0 72).toInt = 0 from by (first | exact om_36161e850215 t14.2 pq123 | omega))⟩), (fun h9 => RJm.ag (bkq (by rw [show V 0 54 = V112 0 54 from ((show agr [(0, 0), (0, 69), (0, 70), (0, 71), (0, 72), (0, 76), (0, 93), (0, 95), (0, 98)] [] V V112 from (agr.up (agr.up (agr.tr (agr.up agr.rf hV6 rfl) ajV15 (by decide) (by decide)) hV28 rfl) hV112 rfl)) 0 54 rfl).symm]; exact h9)).2.2 (agr.d95 (show agr [(0, 0), (0, 69), (0, 70), (0, 71), (0, 72), (0, 76), (0, 93), (0, 95), (0, 98)] [] V V112 from (agr.up (agr.up (agr.tr (agr.up agr.rf hV6 rfl) ajV15 (by decide) (by decide)) hV28 rfl) hV112 rfl)) (show (V112 0 95).toInt = (V 0 95).toInt from by (first | exact om_844449b06c38 fz t13 pq118 | omega))) (by decide))⟩, by rw [ht]; exact hP, va_K.moved hW.alike hK, hD⟩, hS.F ht⟩) hS.2.2 dX12_call_109
        · skip
          have f124 : ((V 0 54)).toInt = 0 := b_eq rfl (by decide) c91
          exfalso; (first | exact om_0abcda13baee r31.1 f48 f124 | omega)
  · skip
    have f125 : 0 ≤ p1.toInt := b_nlt rfl (by decide) c29
    refine lv_iload_n hx hb dX12_call_18 rfl (lv_at hl 2 rfl) ?_
    refine lv_aload_n hx hb dX12_call_19 rfl (lv_at hl 0 rfl) ?_
    refine va_get (D := D) (ci := 12) (v := .int (V28 0 60)) (C := RX12) (T := TX12) (N := 100) hx hb hg inX12 hown hK hP 0 rfl rfl 60 (by decide) (hg _ w1766) (fun _ h9 => h9) rfl dX12_call_20 ?_
    refine g_top (v := (V 0 60)) ((up2_k hV28 (by decide)).trans ((ajV15 0 60 rfl).trans (up2_k hV6 (by decide)))) ?_
    refine lv_icmp_ge (tgt := 57) hx hb dX12_call_23 (by decide) (fun c126 => ?_) (fun c126 => ?_)
    · skip
      have f127 : ((V 0 60)).toInt ≤ p1.toInt := b_le rfl rfl c126
      refine lv_iconst (v := 0) hx hb dX12_call_57 (by decide) ?_
      refine lv_istore (lv' := [(5, .int 0), (0, .ref (ad 0)), (1, .int p0), (2, .int p1), (3, .int p2), (4, .int p3)]) hx hb dX12_call_58 hl (by decide) rfl (fun ls hl => ?_)
      refine lv_aload_n hx hb dX12_call_60 rfl (lv_at hl 1 rfl) ?_
      refine va_get (D := D) (ci := 12) (v := .int (V28 0 54)) (C := RX12) (T := TX12) (N := 100) hx hb hg inX12 hown hK hP 0 rfl rfl 54 (by decide) (hg _ w1760) (fun _ h9 => h9) rfl dX12_call_61 ?_
      refine g_top (v := (V 0 54)) ((up2_k hV28 (by decide)).trans ((ajV15 0 54 rfl).trans (up2_k hV6 (by decide)))) ?_
      have r128 : 0 ≤ ((V 0 54)).toInt ∧ ((V 0 54)).toInt ≤ 1 := hMV 0 54
      refine lv_if_eq (tgt := 80) hx hb dX12_call_64 (by decide) (fun c129 => ?_) (fun c129 => ?_)
      · skip
        have f130 : ((V 0 54)).toInt = 0 := b_eq rfl (by decide) c129
        refine lv_aload_n hx hb dX12_call_80 rfl (lv_at hl 1 rfl) ?_
        refine lv_aload_n hx hb dX12_call_81 rfl (lv_at hl 1 rfl) ?_
        refine va_get (D := D) (ci := 12) (v := .int (V28 0 54)) (C := RX12) (T := TX12) (N := 100) hx hb hg inX12 hown hK hP 0 rfl rfl 54 (by decide) (hg _ w1760) (fun _ h9 => h9) rfl dX12_call_82 ?_
        refine g_top (v := (V 0 54)) ((up2_k hV28 (by decide)).trans ((ajV15 0 54 rfl).trans (up2_k hV6 (by decide)))) ?_
        refine lv_if_ne (tgt := 92) hx hb dX12_call_85 (by decide) (fun c131 => ?_) (fun c131 => ?_)
        · skip
          have f132 : ((V 0 54)).toInt ≠ 0 := b_neq rfl (by decide) c131
          exfalso; (first | exact om_fb320d7600b7 r128.1 f130 f132 | omega)
        · skip
          have f133 : ((V 0 54)).toInt = 0 := b_eq rfl (by decide) c131
          refine lv_iconst (v := 4) hx hb dX12_call_88 (by decide) ?_
          refine lv_goto (tgt := 105) hx hb dX12_call_89 (by decide) ?_
          refine va_put (D := D) (ci := 12) (v := .int 4) (ty := tyX12 70) (C := RX12) (T := TX12) (N := 100) hx hb hg inX12 tyX12 tyX12_ok nmX12 hown hK hP hD hS 0 rfl rfl 70 (by decide) (hg _ w1776) (fun _ h9 => h9) rfl (tyX12_ok 70 (by decide)) rfl rfl (Nat.le_of_ble_eq_true rfl) dX12_call_105 (fun H locs hP hD hS => ?_)
          obtain ⟨V134, hV134⟩ : ∃ z, z = up2 V28 0 70 4 := ⟨_, rfl⟩
          have hP : va_P D vwCl (mw ad kk ks.1 V134 L) H := by rw [hV134]; exact hP
          have hD : va_D A (mw ad kk ks.1 V134 L) := by rw [hV134]; exact hD
          have hMV134 : rgd bM V134 := hMV28.put hV134 (i_full _)
          have agV134 : agr [(0, 0), (0, 60), (0, 65), (0, 68), (0, 69), (0, 70), (0, 71), (0, 72), (0, 73), (0, 76), (0, 90), (0, 91), (0, 92), (0, 93), (0, 95), (0, 96), (0, 98)] [59, 61, 62, 63, 64, 66, 67, 74, 75, 77, 78, 79, 80, 94, 97] V V134 := agV28.up hV134 rfl
          refine lv_iconst (v := 0) hx hb dX12_call_108 (by decide) ?_
          have pq135 : (V134 0 65).toInt = ((V 0 65)).toInt := congrArg Int32.toInt ((up2_k hV134 (by decide)).trans ((up2_k hV28 (by decide)).trans ((ajV15 0 65 rfl).trans (up2_k hV6 (by decide)))))
          have pq136 : (V134 0 60).toInt = ((V 0 60)).toInt := congrArg Int32.toInt ((up2_k hV134 (by decide)).trans ((up2_k hV28 (by decide)).trans ((ajV15 0 60 rfl).trans (up2_k hV6 (by decide)))))
          have pq137 : (V134 0 73).toInt = ((V 0 73)).toInt := congrArg Int32.toInt ((up2_k hV134 (by decide)).trans ((up2_k hV28 (by decide)).trans ((ajV15 0 73 rfl).trans (up2_k hV6 (by decide)))))
          have pq138 : (V134 0 76).toInt = 0 := (congrArg Int32.toInt ((up2_k hV134 (by decide)).trans (up2_s hV28))).trans (by decide)
          have pq139 : (V134 0 69).toInt = ((V15 0 69)).toInt := congrArg Int32.toInt ((up2_k hV134 (by decide)).trans (up2_k hV28 (by decide)))
          have pq140 : (V134 0 95).toInt = ((V15 0 95)).toInt := congrArg Int32.toInt ((up2_k hV134 (by decide)).trans (up2_k hV28 (by decide)))
          have fz141 : (V 0 95).toInt = 0 := r0.2.2.2.2
          have r0142 : RT0 V134 := RT0.ag r0 hMV (show agr [(0, 0), (0, 69), (0, 70), (0, 71), (0, 72), (0, 76), (0, 93), (0, 95), (0, 98)] [] V V134 from (agr.up (agr.up (agr.tr (agr.up agr.rf hV6 rfl) ajV15 (by decide) (by decide)) hV28 rfl) hV134 rfl)) ⟨⟨rfl, fun _ => rfl, fun _ => rfl, fun _ => rfl, fun _ => rfl, fun _ => rfl, fun _ => rfl⟩, by decide, by decide, rfl, rfl, fun _ => rfl, fun _ => rfl, fun _ => rfl⟩ (c0k.ag (show agr [(0, 0), (0, 69), (0, 70), (0, 71), (0, 72), (0, 76), (0, 93), (0, 95), (0, 98)] [] V V134 from (agr.up (agr.up (agr.tr (agr.up agr.rf hV6 rfl) ajV15 (by decide) (by decide)) hV28 rfl) hV134 rfl)) rfl) (by (first | exact om_36161e850215 t13 pq140 | omega))
          have pq143 : (V134 0 71).toInt = ((V15 0 71)).toInt := congrArg Int32.toInt ((up2_k hV134 (by decide)).trans (up2_k hV28 (by decide)))
          have pq144 : (V134 0 72).toInt = ((V15 0 72)).toInt := congrArg Int32.toInt ((up2_k hV134 (by decide)).trans (up2_k hV28 (by decide)))
          exact W.iret (v := 0) hx hb hr (fun t ht hW => ⟨⟨0, (V134, L), rfl, ⟨hMV134, agV134, rfl, (show (V134 0 65).toInt ≤ (V134 0 60).toInt from by (first | exact om_842ee80c0797 n1 pq135 pq136 | omega)), (show (V134 0 73).toInt - (V134 0 65).toInt ≤ (V 0 73).toInt - (V 0 65).toInt + 300 from by (first | exact om_763a2df3161d pq135 pq137 | omega)), (show (V134 0 76).toInt - (V134 0 69).toInt - (V134 0 73).toInt ≤ (V 0 76).toInt - (V 0 69).toInt - (V 0 73).toInt + 3000 from by (first | exact om_b7d0129991c5 r4.1 r5.2 t10 pq137 pq138 pq139 | omega)), r0142, (fun h9 => by have h1 := h9.1; have h2 := h9.2.1.1; have h3 := h9.2.1.2.1; have h4 := h9.2.1.2.2; have h5 := h9.2.2.1.1; have h6 := h9.2.2.1.2.1; have h7 := h9.2.2.1.2.2; have h8 := h9.2.2.2.1; have h10 := h9.2.2.2.2; have nw9 : (V 35 (nwh V)).toInt = (V 35 (Int32.toNatClampNeg (V 0 11))).toInt := rfl; exfalso; omega), (fun _ => ⟨by decide, by rw [mV_ag (show agr [(0, 70), (0, 76)] [] V15 V134 from (agr.up (agr.up agr.rf hV28 rfl) hV134 rfl)) (by decide), mb9], (show (V134 0 71).toInt = 0 from by (first | exact om_36161e850215 t14.1 pq143 | omega)), (show (V134 0 72).toInt = 0 from by (first | exact om_36161e850215 t14.2 pq144 | omega))⟩), (fun h9 => RJm.ag (bkq (by rw [show V 0 54 = V134 0 54 from ((show agr [(0, 0), (0, 69), (0, 70), (0, 71), (0, 72), (0, 76), (0, 93), (0, 95), (0, 98)] [] V V134 from (agr.up (agr.up (agr.tr (agr.up agr.rf hV6 rfl) ajV15 (by decide) (by decide)) hV28 rfl) hV134 rfl)) 0 54 rfl).symm]; exact h9)).2.2 (agr.d95 (show agr [(0, 0), (0, 69), (0, 70), (0, 71), (0, 72), (0, 76), (0, 93), (0, 95), (0, 98)] [] V V134 from (agr.up (agr.up (agr.tr (agr.up agr.rf hV6 rfl) ajV15 (by decide) (by decide)) hV28 rfl) hV134 rfl)) (show (V134 0 95).toInt = (V 0 95).toInt from by (first | exact om_844449b06c38 fz t13 pq140 | omega))) (by decide))⟩, by rw [ht]; exact hP, va_K.moved hW.alike hK, hD⟩, hS.F ht⟩) hS.2.2 dX12_call_109
      · skip
        have f145 : ((V 0 54)).toInt ≠ 0 := b_neq rfl (by decide) c129
        refine lv_aload_n hx hb dX12_call_67 rfl (lv_at hl 1 rfl) ?_
        refine lv_iload_n hx hb dX12_call_68 rfl (lv_at hl 2 rfl) ?_
        refine gA_int (gA_runV (As := [.int p0]) (rest := []) (ci := 12) (q0 := 0) hx hb hml hown hg hP hD hK hS hA hnw hgk (s_isScope3 l D ks H.size ad kk V28 L p0 hMV28 ) w2223 w2225 w126 w172 w2226 rfl rfl hdV_yX12_isScope ⟨Nat.le_of_ble_eq_true rfl, Nat.le_of_ble_eq_true rfl⟩ rfl hl.1 rfl (Nat.le_of_ble_eq_true rfl) dX12_call_69 ⟨Nat.le_of_ble_eq_true rfl, Nat.le_of_ble_eq_true rfl⟩) hP hD hK hS hA (fun z146 u147 H locs w148 hP hD hK hS => ?_)
        obtain ⟨rgz146, t149⟩ := w148
        have rgz146 : 0 ≤ z146.toInt ∧ z146.toInt ≤ 1 := rgz146
        have t149 : (z146.toInt = 1 ∧ 0 ≤ p0.toInt ∧ p0.toInt < (V28 0 55).toInt ∧ (V28 56 (Int32.toNatClampNeg p0)).toInt = 1) ∨ (z146.toInt = 0 ∧ (p0.toInt < 0 ∨ (V28 0 55).toInt ≤ p0.toInt ∨ (V28 56 (Int32.toNatClampNeg p0)).toInt = 0)) := t149
        have pq150 : (V28 0 55).toInt = ((V 0 55)).toInt := congrArg Int32.toInt ((up2_k hV28 (by decide)).trans ((ajV15 0 55 rfl).trans (up2_k hV6 (by decide))))
        refine lv_if_eq (tgt := 80) hx hb dX12_call_72 (by decide) (fun c151 => ?_) (fun c151 => ?_)
        · skip
          have f152 : z146.toInt = 0 := b_eq rfl (by decide) c151
          refine lv_aload_n hx hb dX12_call_80 rfl (lv_at hl 1 rfl) ?_
          refine lv_aload_n hx hb dX12_call_81 rfl (lv_at hl 1 rfl) ?_
          refine va_get (D := D) (ci := 12) (v := .int (V28 0 54)) (C := RX12) (T := TX12) (N := 100) hx hb hg inX12 hown hK hP 0 rfl rfl 54 (by decide) (hg _ w1760) (fun _ h9 => h9) rfl dX12_call_82 ?_
          refine g_top (v := (V 0 54)) ((up2_k hV28 (by decide)).trans ((ajV15 0 54 rfl).trans (up2_k hV6 (by decide)))) ?_
          refine lv_if_ne (tgt := 92) hx hb dX12_call_85 (by decide) (fun c153 => ?_) (fun c153 => ?_)
          · skip
            have f154 : ((V 0 54)).toInt ≠ 0 := b_neq rfl (by decide) c153
            refine lv_aload_n hx hb dX12_call_92 rfl (lv_at hl 1 rfl) ?_
            refine lv_iload_n hx hb dX12_call_93 rfl (lv_at hl 2 rfl) ?_
            refine gA_int (gA_runV (As := [.int p0]) (rest := [.ref (ad 0)]) (ci := 12) (q0 := 0) hx hb hml hown hg hP hD hK hS hA hnw hgk (s_isScope3 l D ks H.size ad kk V28 L p0 hMV28 ) w2223 w2225 w126 w172 w2226 rfl rfl hdV_yX12_isScope ⟨Nat.le_of_ble_eq_true rfl, Nat.le_of_ble_eq_true rfl⟩ rfl hl.1 rfl (Nat.le_of_ble_eq_true rfl) dX12_call_94 ⟨Nat.le_of_ble_eq_true rfl, Nat.le_of_ble_eq_true rfl⟩) hP hD hK hS hA (fun z155 u156 H locs w157 hP hD hK hS => ?_)
            obtain ⟨rgz155, t158⟩ := w157
            have rgz155 : 0 ≤ z155.toInt ∧ z155.toInt ≤ 1 := rgz155
            have t158 : (z155.toInt = 1 ∧ 0 ≤ p0.toInt ∧ p0.toInt < (V28 0 55).toInt ∧ (V28 56 (Int32.toNatClampNeg p0)).toInt = 1) ∨ (z155.toInt = 0 ∧ (p0.toInt < 0 ∨ (V28 0 55).toInt ≤ p0.toInt ∨ (V28 56 (Int32.toNatClampNeg p0)).toInt = 0)) := t158
            refine lv_if_ne (tgt := 104) hx hb dX12_call_97 (by decide) (fun c159 => ?_) (fun c159 => ?_)
            · skip
              have f160 : z155.toInt ≠ 0 := b_neq rfl (by decide) c159
              refine lv_iconst (v := 4) hx hb dX12_call_104 (by decide) ?_
              refine va_put (D := D) (ci := 12) (v := .int 4) (ty := tyX12 70) (C := RX12) (T := TX12) (N := 100) hx hb hg inX12 tyX12 tyX12_ok nmX12 hown hK hP hD hS 0 rfl rfl 70 (by decide) (hg _ w1776) (fun _ h9 => h9) rfl (tyX12_ok 70 (by decide)) rfl rfl (Nat.le_of_ble_eq_true rfl) dX12_call_105 (fun H locs hP hD hS => ?_)
              obtain ⟨V161, hV161⟩ : ∃ z, z = up2 V28 0 70 4 := ⟨_, rfl⟩
              have hP : va_P D vwCl (mw ad kk ks.1 V161 L) H := by rw [hV161]; exact hP
              have hD : va_D A (mw ad kk ks.1 V161 L) := by rw [hV161]; exact hD
              have hMV161 : rgd bM V161 := hMV28.put hV161 (i_full _)
              have agV161 : agr [(0, 0), (0, 60), (0, 65), (0, 68), (0, 69), (0, 70), (0, 71), (0, 72), (0, 73), (0, 76), (0, 90), (0, 91), (0, 92), (0, 93), (0, 95), (0, 96), (0, 98)] [59, 61, 62, 63, 64, 66, 67, 74, 75, 77, 78, 79, 80, 94, 97] V V161 := agV28.up hV161 rfl
              refine lv_iconst (v := 0) hx hb dX12_call_108 (by decide) ?_
              have pq162 : (V161 0 65).toInt = ((V 0 65)).toInt := congrArg Int32.toInt ((up2_k hV161 (by decide)).trans ((up2_k hV28 (by decide)).trans ((ajV15 0 65 rfl).trans (up2_k hV6 (by decide)))))
              have pq163 : (V161 0 60).toInt = ((V 0 60)).toInt := congrArg Int32.toInt ((up2_k hV161 (by decide)).trans ((up2_k hV28 (by decide)).trans ((ajV15 0 60 rfl).trans (up2_k hV6 (by decide)))))
              have pq164 : (V161 0 73).toInt = ((V 0 73)).toInt := congrArg Int32.toInt ((up2_k hV161 (by decide)).trans ((up2_k hV28 (by decide)).trans ((ajV15 0 73 rfl).trans (up2_k hV6 (by decide)))))
              have pq165 : (V161 0 76).toInt = 0 := (congrArg Int32.toInt ((up2_k hV161 (by decide)).trans (up2_s hV28))).trans (by decide)
              have pq166 : (V161 0 69).toInt = ((V15 0 69)).toInt := congrArg Int32.toInt ((up2_k hV161 (by decide)).trans (up2_k hV28 (by decide)))
              have pq167 : (V161 0 95).toInt = ((V15 0 95)).toInt := congrArg Int32.toInt ((up2_k hV161 (by decide)).trans (up2_k hV28 (by decide)))
              have fz168 : (V 0 95).toInt = 0 := r0.2.2.2.2
              have r0169 : RT0 V161 := RT0.ag r0 hMV (show agr [(0, 0), (0, 69), (0, 70), (0, 71), (0, 72), (0, 76), (0, 93), (0, 95), (0, 98)] [] V V161 from (agr.up (agr.up (agr.tr (agr.up agr.rf hV6 rfl) ajV15 (by decide) (by decide)) hV28 rfl) hV161 rfl)) ⟨⟨rfl, fun _ => rfl, fun _ => rfl, fun _ => rfl, fun _ => rfl, fun _ => rfl, fun _ => rfl⟩, by decide, by decide, rfl, rfl, fun _ => rfl, fun _ => rfl, fun _ => rfl⟩ (c0k.ag (show agr [(0, 0), (0, 69), (0, 70), (0, 71), (0, 72), (0, 76), (0, 93), (0, 95), (0, 98)] [] V V161 from (agr.up (agr.up (agr.tr (agr.up agr.rf hV6 rfl) ajV15 (by decide) (by decide)) hV28 rfl) hV161 rfl)) rfl) (by (first | exact om_36161e850215 t13 pq167 | omega))
              have pq170 : (V28 56 (Int32.toNatClampNeg p0)).toInt = ((V 56 (Int32.toNatClampNeg p0))).toInt := congrArg Int32.toInt ((up2_o hV28 (by decide)).trans ((ajV15 56 (Int32.toNatClampNeg p0) rfl).trans (up2_o hV6 (by decide))))
              have pq171 : (V161 0 71).toInt = ((V15 0 71)).toInt := congrArg Int32.toInt ((up2_k hV161 (by decide)).trans (up2_k hV28 (by decide)))
              have pq172 : (V161 0 72).toInt = ((V15 0 72)).toInt := congrArg Int32.toInt ((up2_k hV161 (by decide)).trans (up2_k hV28 (by decide)))
              exact W.iret (v := 0) hx hb hr (fun t ht hW => ⟨⟨0, (V161, L), rfl, ⟨hMV161, agV161, rfl, (show (V161 0 65).toInt ≤ (V161 0 60).toInt from by (first | exact om_842ee80c0797 n1 pq162 pq163 | omega)), (show (V161 0 73).toInt - (V161 0 65).toInt ≤ (V 0 73).toInt - (V 0 65).toInt + 300 from by (first | exact om_763a2df3161d pq162 pq164 | omega)), (show (V161 0 76).toInt - (V161 0 69).toInt - (V161 0 73).toInt ≤ (V 0 76).toInt - (V 0 69).toInt - (V 0 73).toInt + 3000 from by (first | exact om_b7d0129991c5 r4.1 r5.2 t10 pq164 pq165 pq166 | omega)), r0169, (fun h9 => by have h1 := h9.1; have h2 := h9.2.1.1; have h3 := h9.2.1.2.1; have h4 := h9.2.1.2.2; have h5 := h9.2.2.1.1; have h6 := h9.2.2.1.2.1; have h7 := h9.2.2.1.2.2; have h8 := h9.2.2.2.1; have h10 := h9.2.2.2.2; have nw9 : (V 35 (nwh V)).toInt = (V 35 (Int32.toNatClampNeg (V 0 11))).toInt := rfl; exfalso; omega), (fun _ => ⟨by decide, by rw [mV_ag (show agr [(0, 70), (0, 76)] [] V15 V161 from (agr.up (agr.up agr.rf hV28 rfl) hV161 rfl)) (by decide), mb9], (show (V161 0 71).toInt = 0 from by (first | exact om_36161e850215 t14.1 pq171 | omega)), (show (V161 0 72).toInt = 0 from by (first | exact om_36161e850215 t14.2 pq172 | omega))⟩), (fun h9 => RJm.ag (bkq (by rw [show V 0 54 = V161 0 54 from ((show agr [(0, 0), (0, 69), (0, 70), (0, 71), (0, 72), (0, 76), (0, 93), (0, 95), (0, 98)] [] V V161 from (agr.up (agr.up (agr.tr (agr.up agr.rf hV6 rfl) ajV15 (by decide) (by decide)) hV28 rfl) hV161 rfl)) 0 54 rfl).symm]; exact h9)).2.2 (agr.d95 (show agr [(0, 0), (0, 69), (0, 70), (0, 71), (0, 72), (0, 76), (0, 93), (0, 95), (0, 98)] [] V V161 from (agr.up (agr.up (agr.tr (agr.up agr.rf hV6 rfl) ajV15 (by decide) (by decide)) hV28 rfl) hV161 rfl)) (show (V161 0 95).toInt = (V 0 95).toInt from by (first | exact om_844449b06c38 fz t13 pq167 | omega))) (by decide))⟩, by rw [ht]; exact hP, va_K.moved hW.alike hK, hD⟩, hS.F ht⟩) hS.2.2 dX12_call_109
            · skip
              have f173 : z155.toInt = 0 := b_eq rfl (by decide) c159
              refine lv_iconst (v := 3) hx hb dX12_call_100 (by decide) ?_
              refine lv_goto (tgt := 105) hx hb dX12_call_101 (by decide) ?_
              refine va_put (D := D) (ci := 12) (v := .int 3) (ty := tyX12 70) (C := RX12) (T := TX12) (N := 100) hx hb hg inX12 tyX12 tyX12_ok nmX12 hown hK hP hD hS 0 rfl rfl 70 (by decide) (hg _ w1776) (fun _ h9 => h9) rfl (tyX12_ok 70 (by decide)) rfl rfl (Nat.le_of_ble_eq_true rfl) dX12_call_105 (fun H locs hP hD hS => ?_)
              obtain ⟨V174, hV174⟩ : ∃ z, z = up2 V28 0 70 3 := ⟨_, rfl⟩
              have hP : va_P D vwCl (mw ad kk ks.1 V174 L) H := by rw [hV174]; exact hP
              have hD : va_D A (mw ad kk ks.1 V174 L) := by rw [hV174]; exact hD
              have hMV174 : rgd bM V174 := hMV28.put hV174 (i_full _)
              have agV174 : agr [(0, 0), (0, 60), (0, 65), (0, 68), (0, 69), (0, 70), (0, 71), (0, 72), (0, 73), (0, 76), (0, 90), (0, 91), (0, 92), (0, 93), (0, 95), (0, 96), (0, 98)] [59, 61, 62, 63, 64, 66, 67, 74, 75, 77, 78, 79, 80, 94, 97] V V174 := agV28.up hV174 rfl
              refine lv_iconst (v := 0) hx hb dX12_call_108 (by decide) ?_
              have pq175 : (V174 0 65).toInt = ((V 0 65)).toInt := congrArg Int32.toInt ((up2_k hV174 (by decide)).trans ((up2_k hV28 (by decide)).trans ((ajV15 0 65 rfl).trans (up2_k hV6 (by decide)))))
              have pq176 : (V174 0 60).toInt = ((V 0 60)).toInt := congrArg Int32.toInt ((up2_k hV174 (by decide)).trans ((up2_k hV28 (by decide)).trans ((ajV15 0 60 rfl).trans (up2_k hV6 (by decide)))))
              have pq177 : (V174 0 73).toInt = ((V 0 73)).toInt := congrArg Int32.toInt ((up2_k hV174 (by decide)).trans ((up2_k hV28 (by decide)).trans ((ajV15 0 73 rfl).trans (up2_k hV6 (by decide)))))
              have pq178 : (V174 0 76).toInt = 0 := (congrArg Int32.toInt ((up2_k hV174 (by decide)).trans (up2_s hV28))).trans (by decide)
              have pq179 : (V174 0 69).toInt = ((V15 0 69)).toInt := congrArg Int32.toInt ((up2_k hV174 (by decide)).trans (up2_k hV28 (by decide)))
              have pq180 : (V174 0 95).toInt = ((V15 0 95)).toInt := congrArg Int32.toInt ((up2_k hV174 (by decide)).trans (up2_k hV28 (by decide)))
              have fz181 : (V 0 95).toInt = 0 := r0.2.2.2.2
              have r0182 : RT0 V174 := RT0.ag r0 hMV (show agr [(0, 0), (0, 69), (0, 70), (0, 71), (0, 72), (0, 76), (0, 93), (0, 95), (0, 98)] [] V V174 from (agr.up (agr.up (agr.tr (agr.up agr.rf hV6 rfl) ajV15 (by decide) (by decide)) hV28 rfl) hV174 rfl)) ⟨⟨rfl, fun _ => rfl, fun _ => rfl, fun _ => rfl, fun _ => rfl, fun _ => rfl, fun _ => rfl⟩, by decide, by decide, rfl, rfl, fun _ => rfl, fun _ => rfl, fun _ => rfl⟩ (c0k.ag (show agr [(0, 0), (0, 69), (0, 70), (0, 71), (0, 72), (0, 76), (0, 93), (0, 95), (0, 98)] [] V V174 from (agr.up (agr.up (agr.tr (agr.up agr.rf hV6 rfl) ajV15 (by decide) (by decide)) hV28 rfl) hV174 rfl)) rfl) (by (first | exact om_36161e850215 t13 pq180 | omega))
              have pq183 : (V28 56 (Int32.toNatClampNeg p0)).toInt = ((V 56 (Int32.toNatClampNeg p0))).toInt := congrArg Int32.toInt ((up2_o hV28 (by decide)).trans ((ajV15 56 (Int32.toNatClampNeg p0) rfl).trans (up2_o hV6 (by decide))))
              have pq184 : (V174 0 71).toInt = ((V15 0 71)).toInt := congrArg Int32.toInt ((up2_k hV174 (by decide)).trans (up2_k hV28 (by decide)))
              have pq185 : (V174 0 72).toInt = ((V15 0 72)).toInt := congrArg Int32.toInt ((up2_k hV174 (by decide)).trans (up2_k hV28 (by decide)))
              exact W.iret (v := 0) hx hb hr (fun t ht hW => ⟨⟨0, (V174, L), rfl, ⟨hMV174, agV174, rfl, (show (V174 0 65).toInt ≤ (V174 0 60).toInt from by (first | exact om_842ee80c0797 n1 pq175 pq176 | omega)), (show (V174 0 73).toInt - (V174 0 65).toInt ≤ (V 0 73).toInt - (V 0 65).toInt + 300 from by (first | exact om_763a2df3161d pq175 pq177 | omega)), (show (V174 0 76).toInt - (V174 0 69).toInt - (V174 0 73).toInt ≤ (V 0 76).toInt - (V 0 69).toInt - (V 0 73).toInt + 3000 from by (first | exact om_b7d0129991c5 r4.1 r5.2 t10 pq177 pq178 pq179 | omega)), r0182, (fun h9 => by have h1 := h9.1; have h2 := h9.2.1.1; have h3 := h9.2.1.2.1; have h4 := h9.2.1.2.2; have h5 := h9.2.2.1.1; have h6 := h9.2.2.1.2.1; have h7 := h9.2.2.1.2.2; have h8 := h9.2.2.2.1; have h10 := h9.2.2.2.2; have nw9 : (V 35 (nwh V)).toInt = (V 35 (Int32.toNatClampNeg (V 0 11))).toInt := rfl; exfalso; omega), (fun _ => ⟨by decide, by rw [mV_ag (show agr [(0, 70), (0, 76)] [] V15 V174 from (agr.up (agr.up agr.rf hV28 rfl) hV174 rfl)) (by decide), mb9], (show (V174 0 71).toInt = 0 from by (first | exact om_36161e850215 t14.1 pq184 | omega)), (show (V174 0 72).toInt = 0 from by (first | exact om_36161e850215 t14.2 pq185 | omega))⟩), (fun h9 => RJm.ag (bkq (by rw [show V 0 54 = V174 0 54 from ((show agr [(0, 0), (0, 69), (0, 70), (0, 71), (0, 72), (0, 76), (0, 93), (0, 95), (0, 98)] [] V V174 from (agr.up (agr.up (agr.tr (agr.up agr.rf hV6 rfl) ajV15 (by decide) (by decide)) hV28 rfl) hV174 rfl)) 0 54 rfl).symm]; exact h9)).2.2 (agr.d95 (show agr [(0, 0), (0, 69), (0, 70), (0, 71), (0, 72), (0, 76), (0, 93), (0, 95), (0, 98)] [] V V174 from (agr.up (agr.up (agr.tr (agr.up agr.rf hV6 rfl) ajV15 (by decide) (by decide)) hV28 rfl) hV174 rfl)) (show (V174 0 95).toInt = (V 0 95).toInt from by (first | exact om_844449b06c38 fz t13 pq180 | omega))) (by decide))⟩, by rw [ht]; exact hP, va_K.moved hW.alike hK, hD⟩, hS.F ht⟩) hS.2.2 dX12_call_109
          · skip
            have f186 : ((V 0 54)).toInt = 0 := b_eq rfl (by decide) c153
            exfalso; (first | exact om_0abcda13baee r128.1 f145 f186 | omega)
        · skip
          have f187 : z146.toInt ≠ 0 := b_neq rfl (by decide) c151
          refine lv_iload hx hb dX12_call_75 (lv_at hl 0 rfl) ?_
          refine lv_if_ne (tgt := 110) hx hb dX12_call_77 (by decide) (fun q => absurd rfl q) (fun _ => ?_)
          refine lv_aload_n hx hb dX12_call_80 rfl (lv_at hl 1 rfl) ?_
          refine lv_aload_n hx hb dX12_call_81 rfl (lv_at hl 1 rfl) ?_
          refine va_get (D := D) (ci := 12) (v := .int (V28 0 54)) (C := RX12) (T := TX12) (N := 100) hx hb hg inX12 hown hK hP 0 rfl rfl 54 (by decide) (hg _ w1760) (fun _ h9 => h9) rfl dX12_call_82 ?_
          refine g_top (v := (V 0 54)) ((up2_k hV28 (by decide)).trans ((ajV15 0 54 rfl).trans (up2_k hV6 (by decide)))) ?_
          refine lv_if_ne (tgt := 92) hx hb dX12_call_85 (by decide) (fun c188 => ?_) (fun c188 => ?_)
          · skip
            have f189 : ((V 0 54)).toInt ≠ 0 := b_neq rfl (by decide) c188
            refine lv_aload_n hx hb dX12_call_92 rfl (lv_at hl 1 rfl) ?_
            refine lv_iload_n hx hb dX12_call_93 rfl (lv_at hl 2 rfl) ?_
            refine gA_int (gA_runV (As := [.int p0]) (rest := [.ref (ad 0)]) (ci := 12) (q0 := 0) hx hb hml hown hg hP hD hK hS hA hnw hgk (s_isScope3 l D ks H.size ad kk V28 L p0 hMV28 ) w2223 w2225 w126 w172 w2226 rfl rfl hdV_yX12_isScope ⟨Nat.le_of_ble_eq_true rfl, Nat.le_of_ble_eq_true rfl⟩ rfl hl.1 rfl (Nat.le_of_ble_eq_true rfl) dX12_call_94 ⟨Nat.le_of_ble_eq_true rfl, Nat.le_of_ble_eq_true rfl⟩) hP hD hK hS hA (fun z190 u191 H locs w192 hP hD hK hS => ?_)
            obtain ⟨rgz190, t193⟩ := w192
            have rgz190 : 0 ≤ z190.toInt ∧ z190.toInt ≤ 1 := rgz190
            have t193 : (z190.toInt = 1 ∧ 0 ≤ p0.toInt ∧ p0.toInt < (V28 0 55).toInt ∧ (V28 56 (Int32.toNatClampNeg p0)).toInt = 1) ∨ (z190.toInt = 0 ∧ (p0.toInt < 0 ∨ (V28 0 55).toInt ≤ p0.toInt ∨ (V28 56 (Int32.toNatClampNeg p0)).toInt = 0)) := t193
            refine lv_if_ne (tgt := 104) hx hb dX12_call_97 (by decide) (fun c194 => ?_) (fun c194 => ?_)
            · skip
              have f195 : z190.toInt ≠ 0 := b_neq rfl (by decide) c194
              refine lv_iconst (v := 4) hx hb dX12_call_104 (by decide) ?_
              refine va_put (D := D) (ci := 12) (v := .int 4) (ty := tyX12 70) (C := RX12) (T := TX12) (N := 100) hx hb hg inX12 tyX12 tyX12_ok nmX12 hown hK hP hD hS 0 rfl rfl 70 (by decide) (hg _ w1776) (fun _ h9 => h9) rfl (tyX12_ok 70 (by decide)) rfl rfl (Nat.le_of_ble_eq_true rfl) dX12_call_105 (fun H locs hP hD hS => ?_)
              obtain ⟨V196, hV196⟩ : ∃ z, z = up2 V28 0 70 4 := ⟨_, rfl⟩
              have hP : va_P D vwCl (mw ad kk ks.1 V196 L) H := by rw [hV196]; exact hP
              have hD : va_D A (mw ad kk ks.1 V196 L) := by rw [hV196]; exact hD
              have hMV196 : rgd bM V196 := hMV28.put hV196 (i_full _)
              have agV196 : agr [(0, 0), (0, 60), (0, 65), (0, 68), (0, 69), (0, 70), (0, 71), (0, 72), (0, 73), (0, 76), (0, 90), (0, 91), (0, 92), (0, 93), (0, 95), (0, 96), (0, 98)] [59, 61, 62, 63, 64, 66, 67, 74, 75, 77, 78, 79, 80, 94, 97] V V196 := agV28.up hV196 rfl
              refine lv_iconst (v := 0) hx hb dX12_call_108 (by decide) ?_
              have pq197 : (V196 0 65).toInt = ((V 0 65)).toInt := congrArg Int32.toInt ((up2_k hV196 (by decide)).trans ((up2_k hV28 (by decide)).trans ((ajV15 0 65 rfl).trans (up2_k hV6 (by decide)))))
              have pq198 : (V196 0 60).toInt = ((V 0 60)).toInt := congrArg Int32.toInt ((up2_k hV196 (by decide)).trans ((up2_k hV28 (by decide)).trans ((ajV15 0 60 rfl).trans (up2_k hV6 (by decide)))))
              have pq199 : (V196 0 73).toInt = ((V 0 73)).toInt := congrArg Int32.toInt ((up2_k hV196 (by decide)).trans ((up2_k hV28 (by decide)).trans ((ajV15 0 73 rfl).trans (up2_k hV6 (by decide)))))
              have pq200 : (V196 0 76).toInt = 0 := (congrArg Int32.toInt ((up2_k hV196 (by decide)).trans (up2_s hV28))).trans (by decide)
              have pq201 : (V196 0 69).toInt = ((V15 0 69)).toInt := congrArg Int32.toInt ((up2_k hV196 (by decide)).trans (up2_k hV28 (by decide)))
              have pq202 : (V196 0 95).toInt = ((V15 0 95)).toInt := congrArg Int32.toInt ((up2_k hV196 (by decide)).trans (up2_k hV28 (by decide)))
              have fz203 : (V 0 95).toInt = 0 := r0.2.2.2.2
              have r0204 : RT0 V196 := RT0.ag r0 hMV (show agr [(0, 0), (0, 69), (0, 70), (0, 71), (0, 72), (0, 76), (0, 93), (0, 95), (0, 98)] [] V V196 from (agr.up (agr.up (agr.tr (agr.up agr.rf hV6 rfl) ajV15 (by decide) (by decide)) hV28 rfl) hV196 rfl)) ⟨⟨rfl, fun _ => rfl, fun _ => rfl, fun _ => rfl, fun _ => rfl, fun _ => rfl, fun _ => rfl⟩, by decide, by decide, rfl, rfl, fun _ => rfl, fun _ => rfl, fun _ => rfl⟩ (c0k.ag (show agr [(0, 0), (0, 69), (0, 70), (0, 71), (0, 72), (0, 76), (0, 93), (0, 95), (0, 98)] [] V V196 from (agr.up (agr.up (agr.tr (agr.up agr.rf hV6 rfl) ajV15 (by decide) (by decide)) hV28 rfl) hV196 rfl)) rfl) (by (first | exact om_36161e850215 t13 pq202 | omega))
              have pq205 : (V28 56 (Int32.toNatClampNeg p0)).toInt = ((V 56 (Int32.toNatClampNeg p0))).toInt := congrArg Int32.toInt ((up2_o hV28 (by decide)).trans ((ajV15 56 (Int32.toNatClampNeg p0) rfl).trans (up2_o hV6 (by decide))))
              have pq206 : (V196 0 71).toInt = ((V15 0 71)).toInt := congrArg Int32.toInt ((up2_k hV196 (by decide)).trans (up2_k hV28 (by decide)))
              have pq207 : (V196 0 72).toInt = ((V15 0 72)).toInt := congrArg Int32.toInt ((up2_k hV196 (by decide)).trans (up2_k hV28 (by decide)))
              exact W.iret (v := 0) hx hb hr (fun t ht hW => ⟨⟨0, (V196, L), rfl, ⟨hMV196, agV196, rfl, (show (V196 0 65).toInt ≤ (V196 0 60).toInt from by (first | exact om_842ee80c0797 n1 pq197 pq198 | omega)), (show (V196 0 73).toInt - (V196 0 65).toInt ≤ (V 0 73).toInt - (V 0 65).toInt + 300 from by (first | exact om_763a2df3161d pq197 pq199 | omega)), (show (V196 0 76).toInt - (V196 0 69).toInt - (V196 0 73).toInt ≤ (V 0 76).toInt - (V 0 69).toInt - (V 0 73).toInt + 3000 from by (first | exact om_b7d0129991c5 r4.1 r5.2 t10 pq199 pq200 pq201 | omega)), r0204, (fun h9 => by have h1 := h9.1; have h2 := h9.2.1.1; have h3 := h9.2.1.2.1; have h4 := h9.2.1.2.2; have h5 := h9.2.2.1.1; have h6 := h9.2.2.1.2.1; have h7 := h9.2.2.1.2.2; have h8 := h9.2.2.2.1; have h10 := h9.2.2.2.2; have nw9 : (V 35 (nwh V)).toInt = (V 35 (Int32.toNatClampNeg (V 0 11))).toInt := rfl; exfalso; omega), (fun _ => ⟨by decide, by rw [mV_ag (show agr [(0, 70), (0, 76)] [] V15 V196 from (agr.up (agr.up agr.rf hV28 rfl) hV196 rfl)) (by decide), mb9], (show (V196 0 71).toInt = 0 from by (first | exact om_36161e850215 t14.1 pq206 | omega)), (show (V196 0 72).toInt = 0 from by (first | exact om_36161e850215 t14.2 pq207 | omega))⟩), (fun h9 => RJm.ag (bkq (by rw [show V 0 54 = V196 0 54 from ((show agr [(0, 0), (0, 69), (0, 70), (0, 71), (0, 72), (0, 76), (0, 93), (0, 95), (0, 98)] [] V V196 from (agr.up (agr.up (agr.tr (agr.up agr.rf hV6 rfl) ajV15 (by decide) (by decide)) hV28 rfl) hV196 rfl)) 0 54 rfl).symm]; exact h9)).2.2 (agr.d95 (show agr [(0, 0), (0, 69), (0, 70), (0, 71), (0, 72), (0, 76), (0, 93), (0, 95), (0, 98)] [] V V196 from (agr.up (agr.up (agr.tr (agr.up agr.rf hV6 rfl) ajV15 (by decide) (by decide)) hV28 rfl) hV196 rfl)) (show (V196 0 95).toInt = (V 0 95).toInt from by (first | exact om_844449b06c38 fz t13 pq202 | omega))) (by decide))⟩, by rw [ht]; exact hP, va_K.moved hW.alike hK, hD⟩, hS.F ht⟩) hS.2.2 dX12_call_109
            · skip
              have f208 : z190.toInt = 0 := b_eq rfl (by decide) c194
              refine lv_iconst (v := 3) hx hb dX12_call_100 (by decide) ?_
              refine lv_goto (tgt := 105) hx hb dX12_call_101 (by decide) ?_
              refine va_put (D := D) (ci := 12) (v := .int 3) (ty := tyX12 70) (C := RX12) (T := TX12) (N := 100) hx hb hg inX12 tyX12 tyX12_ok nmX12 hown hK hP hD hS 0 rfl rfl 70 (by decide) (hg _ w1776) (fun _ h9 => h9) rfl (tyX12_ok 70 (by decide)) rfl rfl (Nat.le_of_ble_eq_true rfl) dX12_call_105 (fun H locs hP hD hS => ?_)
              obtain ⟨V209, hV209⟩ : ∃ z, z = up2 V28 0 70 3 := ⟨_, rfl⟩
              have hP : va_P D vwCl (mw ad kk ks.1 V209 L) H := by rw [hV209]; exact hP
              have hD : va_D A (mw ad kk ks.1 V209 L) := by rw [hV209]; exact hD
              have hMV209 : rgd bM V209 := hMV28.put hV209 (i_full _)
              have agV209 : agr [(0, 0), (0, 60), (0, 65), (0, 68), (0, 69), (0, 70), (0, 71), (0, 72), (0, 73), (0, 76), (0, 90), (0, 91), (0, 92), (0, 93), (0, 95), (0, 96), (0, 98)] [59, 61, 62, 63, 64, 66, 67, 74, 75, 77, 78, 79, 80, 94, 97] V V209 := agV28.up hV209 rfl
              refine lv_iconst (v := 0) hx hb dX12_call_108 (by decide) ?_
              have pq210 : (V209 0 65).toInt = ((V 0 65)).toInt := congrArg Int32.toInt ((up2_k hV209 (by decide)).trans ((up2_k hV28 (by decide)).trans ((ajV15 0 65 rfl).trans (up2_k hV6 (by decide)))))
              have pq211 : (V209 0 60).toInt = ((V 0 60)).toInt := congrArg Int32.toInt ((up2_k hV209 (by decide)).trans ((up2_k hV28 (by decide)).trans ((ajV15 0 60 rfl).trans (up2_k hV6 (by decide)))))
              have pq212 : (V209 0 73).toInt = ((V 0 73)).toInt := congrArg Int32.toInt ((up2_k hV209 (by decide)).trans ((up2_k hV28 (by decide)).trans ((ajV15 0 73 rfl).trans (up2_k hV6 (by decide)))))
              have pq213 : (V209 0 76).toInt = 0 := (congrArg Int32.toInt ((up2_k hV209 (by decide)).trans (up2_s hV28))).trans (by decide)
              have pq214 : (V209 0 69).toInt = ((V15 0 69)).toInt := congrArg Int32.toInt ((up2_k hV209 (by decide)).trans (up2_k hV28 (by decide)))
              have pq215 : (V209 0 95).toInt = ((V15 0 95)).toInt := congrArg Int32.toInt ((up2_k hV209 (by decide)).trans (up2_k hV28 (by decide)))
              have fz216 : (V 0 95).toInt = 0 := r0.2.2.2.2
              have r0217 : RT0 V209 := RT0.ag r0 hMV (show agr [(0, 0), (0, 69), (0, 70), (0, 71), (0, 72), (0, 76), (0, 93), (0, 95), (0, 98)] [] V V209 from (agr.up (agr.up (agr.tr (agr.up agr.rf hV6 rfl) ajV15 (by decide) (by decide)) hV28 rfl) hV209 rfl)) ⟨⟨rfl, fun _ => rfl, fun _ => rfl, fun _ => rfl, fun _ => rfl, fun _ => rfl, fun _ => rfl⟩, by decide, by decide, rfl, rfl, fun _ => rfl, fun _ => rfl, fun _ => rfl⟩ (c0k.ag (show agr [(0, 0), (0, 69), (0, 70), (0, 71), (0, 72), (0, 76), (0, 93), (0, 95), (0, 98)] [] V V209 from (agr.up (agr.up (agr.tr (agr.up agr.rf hV6 rfl) ajV15 (by decide) (by decide)) hV28 rfl) hV209 rfl)) rfl) (by (first | exact om_36161e850215 t13 pq215 | omega))
              have pq218 : (V28 56 (Int32.toNatClampNeg p0)).toInt = ((V 56 (Int32.toNatClampNeg p0))).toInt := congrArg Int32.toInt ((up2_o hV28 (by decide)).trans ((ajV15 56 (Int32.toNatClampNeg p0) rfl).trans (up2_o hV6 (by decide))))
              have pq219 : (V209 0 71).toInt = ((V15 0 71)).toInt := congrArg Int32.toInt ((up2_k hV209 (by decide)).trans (up2_k hV28 (by decide)))
              have pq220 : (V209 0 72).toInt = ((V15 0 72)).toInt := congrArg Int32.toInt ((up2_k hV209 (by decide)).trans (up2_k hV28 (by decide)))
              exact W.iret (v := 0) hx hb hr (fun t ht hW => ⟨⟨0, (V209, L), rfl, ⟨hMV209, agV209, rfl, (show (V209 0 65).toInt ≤ (V209 0 60).toInt from by (first | exact om_842ee80c0797 n1 pq210 pq211 | omega)), (show (V209 0 73).toInt - (V209 0 65).toInt ≤ (V 0 73).toInt - (V 0 65).toInt + 300 from by (first | exact om_763a2df3161d pq210 pq212 | omega)), (show (V209 0 76).toInt - (V209 0 69).toInt - (V209 0 73).toInt ≤ (V 0 76).toInt - (V 0 69).toInt - (V 0 73).toInt + 3000 from by (first | exact om_b7d0129991c5 r4.1 r5.2 t10 pq212 pq213 pq214 | omega)), r0217, (fun h9 => by have h1 := h9.1; have h2 := h9.2.1.1; have h3 := h9.2.1.2.1; have h4 := h9.2.1.2.2; have h5 := h9.2.2.1.1; have h6 := h9.2.2.1.2.1; have h7 := h9.2.2.1.2.2; have h8 := h9.2.2.2.1; have h10 := h9.2.2.2.2; have nw9 : (V 35 (nwh V)).toInt = (V 35 (Int32.toNatClampNeg (V 0 11))).toInt := rfl; exfalso; omega), (fun _ => ⟨by decide, by rw [mV_ag (show agr [(0, 70), (0, 76)] [] V15 V209 from (agr.up (agr.up agr.rf hV28 rfl) hV209 rfl)) (by decide), mb9], (show (V209 0 71).toInt = 0 from by (first | exact om_36161e850215 t14.1 pq219 | omega)), (show (V209 0 72).toInt = 0 from by (first | exact om_36161e850215 t14.2 pq220 | omega))⟩), (fun h9 => RJm.ag (bkq (by rw [show V 0 54 = V209 0 54 from ((show agr [(0, 0), (0, 69), (0, 70), (0, 71), (0, 72), (0, 76), (0, 93), (0, 95), (0, 98)] [] V V209 from (agr.up (agr.up (agr.tr (agr.up agr.rf hV6 rfl) ajV15 (by decide) (by decide)) hV28 rfl) hV209 rfl)) 0 54 rfl).symm]; exact h9)).2.2 (agr.d95 (show agr [(0, 0), (0, 69), (0, 70), (0, 71), (0, 72), (0, 76), (0, 93), (0, 95), (0, 98)] [] V V209 from (agr.up (agr.up (agr.tr (agr.up agr.rf hV6 rfl) ajV15 (by decide) (by decide)) hV28 rfl) hV209 rfl)) (show (V209 0 95).toInt = (V 0 95).toInt from by (first | exact om_844449b06c38 fz t13 pq215 | omega))) (by decide))⟩, by rw [ht]; exact hP, va_K.moved hW.alike hK, hD⟩, hS.F ht⟩) hS.2.2 dX12_call_109
          · skip
            have f221 : ((V 0 54)).toInt = 0 := b_eq rfl (by decide) c188
            exfalso; (first | exact om_0abcda13baee r128.1 f145 f221 | omega)
    · skip
      have f222 : p1.toInt < ((V 0 60)).toInt := b_nle rfl rfl c126
      refine lv_aload_n hx hb dX12_call_26 rfl (lv_at hl 0 rfl) ?_
      refine va_get (D := D) (ci := 12) (v := .ref (ad 63)) (C := RX12) (T := TX12) (N := 100) hx hb hg inX12 hown hK hP 0 rfl rfl 63 (by decide) (hg _ w1769) (fun _ h9 => h9) rfl dX12_call_27 ?_
      refine lv_iload_n hx hb dX12_call_30 rfl (lv_at hl 2 rfl) ?_
      refine va_iald (D := D) (i := p1) hx hb hK hP 48 47 rfl rfl (i_in (a := p1.toInt) rfl (by (first | exact om_e23680f16df4 r2.2 f125 f222 | omega))) dX12_call_31 ?_
      refine g_top (v := (V 63 (Int32.toNatClampNeg p1))) ((up2_o hV28 (by decide)).trans ((ajV15 63 (Int32.toNatClampNeg p1) rfl).trans (up2_o hV6 (by decide)))) ?_
      refine lv_iconst (v := 1) hx hb dX12_call_32 (by decide) ?_
      refine lv_icmp_ne (tgt := 57) hx hb dX12_call_33 (by decide) (fun c223 => ?_) (fun c223 => ?_)
      · skip
        have f224 : ((V 63 (Int32.toNatClampNeg p1))).toInt ≠ 1 := b_neq rfl (by decide) c223
        refine lv_iconst (v := 0) hx hb dX12_call_57 (by decide) ?_
        refine lv_istore (lv' := [(5, .int 0), (0, .ref (ad 0)), (1, .int p0), (2, .int p1), (3, .int p2), (4, .int p3)]) hx hb dX12_call_58 hl (by decide) rfl (fun ls hl => ?_)
        refine lv_aload_n hx hb dX12_call_60 rfl (lv_at hl 1 rfl) ?_
        refine va_get (D := D) (ci := 12) (v := .int (V28 0 54)) (C := RX12) (T := TX12) (N := 100) hx hb hg inX12 hown hK hP 0 rfl rfl 54 (by decide) (hg _ w1760) (fun _ h9 => h9) rfl dX12_call_61 ?_
        refine g_top (v := (V 0 54)) ((up2_k hV28 (by decide)).trans ((ajV15 0 54 rfl).trans (up2_k hV6 (by decide)))) ?_
        have r225 : 0 ≤ ((V 0 54)).toInt ∧ ((V 0 54)).toInt ≤ 1 := hMV 0 54
        refine lv_if_eq (tgt := 80) hx hb dX12_call_64 (by decide) (fun c226 => ?_) (fun c226 => ?_)
        · skip
          have f227 : ((V 0 54)).toInt = 0 := b_eq rfl (by decide) c226
          refine lv_aload_n hx hb dX12_call_80 rfl (lv_at hl 1 rfl) ?_
          refine lv_aload_n hx hb dX12_call_81 rfl (lv_at hl 1 rfl) ?_
          refine va_get (D := D) (ci := 12) (v := .int (V28 0 54)) (C := RX12) (T := TX12) (N := 100) hx hb hg inX12 hown hK hP 0 rfl rfl 54 (by decide) (hg _ w1760) (fun _ h9 => h9) rfl dX12_call_82 ?_
          refine g_top (v := (V 0 54)) ((up2_k hV28 (by decide)).trans ((ajV15 0 54 rfl).trans (up2_k hV6 (by decide)))) ?_
          refine lv_if_ne (tgt := 92) hx hb dX12_call_85 (by decide) (fun c228 => ?_) (fun c228 => ?_)
          · skip
            have f229 : ((V 0 54)).toInt ≠ 0 := b_neq rfl (by decide) c228
            exfalso; (first | exact om_fb320d7600b7 r225.1 f227 f229 | omega)
          · skip
            have f230 : ((V 0 54)).toInt = 0 := b_eq rfl (by decide) c228
            refine lv_iconst (v := 4) hx hb dX12_call_88 (by decide) ?_
            refine lv_goto (tgt := 105) hx hb dX12_call_89 (by decide) ?_
            refine va_put (D := D) (ci := 12) (v := .int 4) (ty := tyX12 70) (C := RX12) (T := TX12) (N := 100) hx hb hg inX12 tyX12 tyX12_ok nmX12 hown hK hP hD hS 0 rfl rfl 70 (by decide) (hg _ w1776) (fun _ h9 => h9) rfl (tyX12_ok 70 (by decide)) rfl rfl (Nat.le_of_ble_eq_true rfl) dX12_call_105 (fun H locs hP hD hS => ?_)
            obtain ⟨V231, hV231⟩ : ∃ z, z = up2 V28 0 70 4 := ⟨_, rfl⟩
            have hP : va_P D vwCl (mw ad kk ks.1 V231 L) H := by rw [hV231]; exact hP
            have hD : va_D A (mw ad kk ks.1 V231 L) := by rw [hV231]; exact hD
            have hMV231 : rgd bM V231 := hMV28.put hV231 (i_full _)
            have agV231 : agr [(0, 0), (0, 60), (0, 65), (0, 68), (0, 69), (0, 70), (0, 71), (0, 72), (0, 73), (0, 76), (0, 90), (0, 91), (0, 92), (0, 93), (0, 95), (0, 96), (0, 98)] [59, 61, 62, 63, 64, 66, 67, 74, 75, 77, 78, 79, 80, 94, 97] V V231 := agV28.up hV231 rfl
            refine lv_iconst (v := 0) hx hb dX12_call_108 (by decide) ?_
            have pq232 : (V231 0 65).toInt = ((V 0 65)).toInt := congrArg Int32.toInt ((up2_k hV231 (by decide)).trans ((up2_k hV28 (by decide)).trans ((ajV15 0 65 rfl).trans (up2_k hV6 (by decide)))))
            have pq233 : (V231 0 60).toInt = ((V 0 60)).toInt := congrArg Int32.toInt ((up2_k hV231 (by decide)).trans ((up2_k hV28 (by decide)).trans ((ajV15 0 60 rfl).trans (up2_k hV6 (by decide)))))
            have pq234 : (V231 0 73).toInt = ((V 0 73)).toInt := congrArg Int32.toInt ((up2_k hV231 (by decide)).trans ((up2_k hV28 (by decide)).trans ((ajV15 0 73 rfl).trans (up2_k hV6 (by decide)))))
            have pq235 : (V231 0 76).toInt = 0 := (congrArg Int32.toInt ((up2_k hV231 (by decide)).trans (up2_s hV28))).trans (by decide)
            have pq236 : (V231 0 69).toInt = ((V15 0 69)).toInt := congrArg Int32.toInt ((up2_k hV231 (by decide)).trans (up2_k hV28 (by decide)))
            have pq237 : (V231 0 95).toInt = ((V15 0 95)).toInt := congrArg Int32.toInt ((up2_k hV231 (by decide)).trans (up2_k hV28 (by decide)))
            have fz238 : (V 0 95).toInt = 0 := r0.2.2.2.2
            have r0239 : RT0 V231 := RT0.ag r0 hMV (show agr [(0, 0), (0, 69), (0, 70), (0, 71), (0, 72), (0, 76), (0, 93), (0, 95), (0, 98)] [] V V231 from (agr.up (agr.up (agr.tr (agr.up agr.rf hV6 rfl) ajV15 (by decide) (by decide)) hV28 rfl) hV231 rfl)) ⟨⟨rfl, fun _ => rfl, fun _ => rfl, fun _ => rfl, fun _ => rfl, fun _ => rfl, fun _ => rfl⟩, by decide, by decide, rfl, rfl, fun _ => rfl, fun _ => rfl, fun _ => rfl⟩ (c0k.ag (show agr [(0, 0), (0, 69), (0, 70), (0, 71), (0, 72), (0, 76), (0, 93), (0, 95), (0, 98)] [] V V231 from (agr.up (agr.up (agr.tr (agr.up agr.rf hV6 rfl) ajV15 (by decide) (by decide)) hV28 rfl) hV231 rfl)) rfl) (by (first | exact om_36161e850215 t13 pq237 | omega))
            have pq240 : (V231 0 71).toInt = ((V15 0 71)).toInt := congrArg Int32.toInt ((up2_k hV231 (by decide)).trans (up2_k hV28 (by decide)))
            have pq241 : (V231 0 72).toInt = ((V15 0 72)).toInt := congrArg Int32.toInt ((up2_k hV231 (by decide)).trans (up2_k hV28 (by decide)))
            exact W.iret (v := 0) hx hb hr (fun t ht hW => ⟨⟨0, (V231, L), rfl, ⟨hMV231, agV231, rfl, (show (V231 0 65).toInt ≤ (V231 0 60).toInt from by (first | exact om_842ee80c0797 n1 pq232 pq233 | omega)), (show (V231 0 73).toInt - (V231 0 65).toInt ≤ (V 0 73).toInt - (V 0 65).toInt + 300 from by (first | exact om_763a2df3161d pq232 pq234 | omega)), (show (V231 0 76).toInt - (V231 0 69).toInt - (V231 0 73).toInt ≤ (V 0 76).toInt - (V 0 69).toInt - (V 0 73).toInt + 3000 from by (first | exact om_b7d0129991c5 r4.1 r5.2 t10 pq234 pq235 pq236 | omega)), r0239, (fun h9 => by have h1 := h9.1; have h2 := h9.2.1.1; have h3 := h9.2.1.2.1; have h4 := h9.2.1.2.2; have h5 := h9.2.2.1.1; have h6 := h9.2.2.1.2.1; have h7 := h9.2.2.1.2.2; have h8 := h9.2.2.2.1; have h10 := h9.2.2.2.2; have nw9 : (V 35 (nwh V)).toInt = (V 35 (Int32.toNatClampNeg (V 0 11))).toInt := rfl; exfalso; omega), (fun _ => ⟨by decide, by rw [mV_ag (show agr [(0, 70), (0, 76)] [] V15 V231 from (agr.up (agr.up agr.rf hV28 rfl) hV231 rfl)) (by decide), mb9], (show (V231 0 71).toInt = 0 from by (first | exact om_36161e850215 t14.1 pq240 | omega)), (show (V231 0 72).toInt = 0 from by (first | exact om_36161e850215 t14.2 pq241 | omega))⟩), (fun h9 => RJm.ag (bkq (by rw [show V 0 54 = V231 0 54 from ((show agr [(0, 0), (0, 69), (0, 70), (0, 71), (0, 72), (0, 76), (0, 93), (0, 95), (0, 98)] [] V V231 from (agr.up (agr.up (agr.tr (agr.up agr.rf hV6 rfl) ajV15 (by decide) (by decide)) hV28 rfl) hV231 rfl)) 0 54 rfl).symm]; exact h9)).2.2 (agr.d95 (show agr [(0, 0), (0, 69), (0, 70), (0, 71), (0, 72), (0, 76), (0, 93), (0, 95), (0, 98)] [] V V231 from (agr.up (agr.up (agr.tr (agr.up agr.rf hV6 rfl) ajV15 (by decide) (by decide)) hV28 rfl) hV231 rfl)) (show (V231 0 95).toInt = (V 0 95).toInt from by (first | exact om_844449b06c38 fz t13 pq237 | omega))) (by decide))⟩, by rw [ht]; exact hP, va_K.moved hW.alike hK, hD⟩, hS.F ht⟩) hS.2.2 dX12_call_109
        · skip
          have f242 : ((V 0 54)).toInt ≠ 0 := b_neq rfl (by decide) c226
          refine lv_aload_n hx hb dX12_call_67 rfl (lv_at hl 1 rfl) ?_
          refine lv_iload_n hx hb dX12_call_68 rfl (lv_at hl 2 rfl) ?_
          refine gA_int (gA_runV (As := [.int p0]) (rest := []) (ci := 12) (q0 := 0) hx hb hml hown hg hP hD hK hS hA hnw hgk (s_isScope3 l D ks H.size ad kk V28 L p0 hMV28 ) w2223 w2225 w126 w172 w2226 rfl rfl hdV_yX12_isScope ⟨Nat.le_of_ble_eq_true rfl, Nat.le_of_ble_eq_true rfl⟩ rfl hl.1 rfl (Nat.le_of_ble_eq_true rfl) dX12_call_69 ⟨Nat.le_of_ble_eq_true rfl, Nat.le_of_ble_eq_true rfl⟩) hP hD hK hS hA (fun z243 u244 H locs w245 hP hD hK hS => ?_)
          obtain ⟨rgz243, t246⟩ := w245
          have rgz243 : 0 ≤ z243.toInt ∧ z243.toInt ≤ 1 := rgz243
          have t246 : (z243.toInt = 1 ∧ 0 ≤ p0.toInt ∧ p0.toInt < (V28 0 55).toInt ∧ (V28 56 (Int32.toNatClampNeg p0)).toInt = 1) ∨ (z243.toInt = 0 ∧ (p0.toInt < 0 ∨ (V28 0 55).toInt ≤ p0.toInt ∨ (V28 56 (Int32.toNatClampNeg p0)).toInt = 0)) := t246
          have pq247 : (V28 0 55).toInt = ((V 0 55)).toInt := congrArg Int32.toInt ((up2_k hV28 (by decide)).trans ((ajV15 0 55 rfl).trans (up2_k hV6 (by decide))))
          refine lv_if_eq (tgt := 80) hx hb dX12_call_72 (by decide) (fun c248 => ?_) (fun c248 => ?_)
          · skip
            have f249 : z243.toInt = 0 := b_eq rfl (by decide) c248
            refine lv_aload_n hx hb dX12_call_80 rfl (lv_at hl 1 rfl) ?_
            refine lv_aload_n hx hb dX12_call_81 rfl (lv_at hl 1 rfl) ?_
            refine va_get (D := D) (ci := 12) (v := .int (V28 0 54)) (C := RX12) (T := TX12) (N := 100) hx hb hg inX12 hown hK hP 0 rfl rfl 54 (by decide) (hg _ w1760) (fun _ h9 => h9) rfl dX12_call_82 ?_
            refine g_top (v := (V 0 54)) ((up2_k hV28 (by decide)).trans ((ajV15 0 54 rfl).trans (up2_k hV6 (by decide)))) ?_
            refine lv_if_ne (tgt := 92) hx hb dX12_call_85 (by decide) (fun c250 => ?_) (fun c250 => ?_)
            · skip
              have f251 : ((V 0 54)).toInt ≠ 0 := b_neq rfl (by decide) c250
              refine lv_aload_n hx hb dX12_call_92 rfl (lv_at hl 1 rfl) ?_
              refine lv_iload_n hx hb dX12_call_93 rfl (lv_at hl 2 rfl) ?_
              refine gA_int (gA_runV (As := [.int p0]) (rest := [.ref (ad 0)]) (ci := 12) (q0 := 0) hx hb hml hown hg hP hD hK hS hA hnw hgk (s_isScope3 l D ks H.size ad kk V28 L p0 hMV28 ) w2223 w2225 w126 w172 w2226 rfl rfl hdV_yX12_isScope ⟨Nat.le_of_ble_eq_true rfl, Nat.le_of_ble_eq_true rfl⟩ rfl hl.1 rfl (Nat.le_of_ble_eq_true rfl) dX12_call_94 ⟨Nat.le_of_ble_eq_true rfl, Nat.le_of_ble_eq_true rfl⟩) hP hD hK hS hA (fun z252 u253 H locs w254 hP hD hK hS => ?_)
              obtain ⟨rgz252, t255⟩ := w254
              have rgz252 : 0 ≤ z252.toInt ∧ z252.toInt ≤ 1 := rgz252
              have t255 : (z252.toInt = 1 ∧ 0 ≤ p0.toInt ∧ p0.toInt < (V28 0 55).toInt ∧ (V28 56 (Int32.toNatClampNeg p0)).toInt = 1) ∨ (z252.toInt = 0 ∧ (p0.toInt < 0 ∨ (V28 0 55).toInt ≤ p0.toInt ∨ (V28 56 (Int32.toNatClampNeg p0)).toInt = 0)) := t255
              refine lv_if_ne (tgt := 104) hx hb dX12_call_97 (by decide) (fun c256 => ?_) (fun c256 => ?_)
              · skip
                have f257 : z252.toInt ≠ 0 := b_neq rfl (by decide) c256
                refine lv_iconst (v := 4) hx hb dX12_call_104 (by decide) ?_
                refine va_put (D := D) (ci := 12) (v := .int 4) (ty := tyX12 70) (C := RX12) (T := TX12) (N := 100) hx hb hg inX12 tyX12 tyX12_ok nmX12 hown hK hP hD hS 0 rfl rfl 70 (by decide) (hg _ w1776) (fun _ h9 => h9) rfl (tyX12_ok 70 (by decide)) rfl rfl (Nat.le_of_ble_eq_true rfl) dX12_call_105 (fun H locs hP hD hS => ?_)
                obtain ⟨V258, hV258⟩ : ∃ z, z = up2 V28 0 70 4 := ⟨_, rfl⟩
                have hP : va_P D vwCl (mw ad kk ks.1 V258 L) H := by rw [hV258]; exact hP
                have hD : va_D A (mw ad kk ks.1 V258 L) := by rw [hV258]; exact hD
                have hMV258 : rgd bM V258 := hMV28.put hV258 (i_full _)
                have agV258 : agr [(0, 0), (0, 60), (0, 65), (0, 68), (0, 69), (0, 70), (0, 71), (0, 72), (0, 73), (0, 76), (0, 90), (0, 91), (0, 92), (0, 93), (0, 95), (0, 96), (0, 98)] [59, 61, 62, 63, 64, 66, 67, 74, 75, 77, 78, 79, 80, 94, 97] V V258 := agV28.up hV258 rfl
                refine lv_iconst (v := 0) hx hb dX12_call_108 (by decide) ?_
                have pq259 : (V258 0 65).toInt = ((V 0 65)).toInt := congrArg Int32.toInt ((up2_k hV258 (by decide)).trans ((up2_k hV28 (by decide)).trans ((ajV15 0 65 rfl).trans (up2_k hV6 (by decide)))))
                have pq260 : (V258 0 60).toInt = ((V 0 60)).toInt := congrArg Int32.toInt ((up2_k hV258 (by decide)).trans ((up2_k hV28 (by decide)).trans ((ajV15 0 60 rfl).trans (up2_k hV6 (by decide)))))
                have pq261 : (V258 0 73).toInt = ((V 0 73)).toInt := congrArg Int32.toInt ((up2_k hV258 (by decide)).trans ((up2_k hV28 (by decide)).trans ((ajV15 0 73 rfl).trans (up2_k hV6 (by decide)))))
                have pq262 : (V258 0 76).toInt = 0 := (congrArg Int32.toInt ((up2_k hV258 (by decide)).trans (up2_s hV28))).trans (by decide)
                have pq263 : (V258 0 69).toInt = ((V15 0 69)).toInt := congrArg Int32.toInt ((up2_k hV258 (by decide)).trans (up2_k hV28 (by decide)))
                have pq264 : (V258 0 95).toInt = ((V15 0 95)).toInt := congrArg Int32.toInt ((up2_k hV258 (by decide)).trans (up2_k hV28 (by decide)))
                have fz265 : (V 0 95).toInt = 0 := r0.2.2.2.2
                have r0266 : RT0 V258 := RT0.ag r0 hMV (show agr [(0, 0), (0, 69), (0, 70), (0, 71), (0, 72), (0, 76), (0, 93), (0, 95), (0, 98)] [] V V258 from (agr.up (agr.up (agr.tr (agr.up agr.rf hV6 rfl) ajV15 (by decide) (by decide)) hV28 rfl) hV258 rfl)) ⟨⟨rfl, fun _ => rfl, fun _ => rfl, fun _ => rfl, fun _ => rfl, fun _ => rfl, fun _ => rfl⟩, by decide, by decide, rfl, rfl, fun _ => rfl, fun _ => rfl, fun _ => rfl⟩ (c0k.ag (show agr [(0, 0), (0, 69), (0, 70), (0, 71), (0, 72), (0, 76), (0, 93), (0, 95), (0, 98)] [] V V258 from (agr.up (agr.up (agr.tr (agr.up agr.rf hV6 rfl) ajV15 (by decide) (by decide)) hV28 rfl) hV258 rfl)) rfl) (by (first | exact om_36161e850215 t13 pq264 | omega))
                have pq267 : (V28 56 (Int32.toNatClampNeg p0)).toInt = ((V 56 (Int32.toNatClampNeg p0))).toInt := congrArg Int32.toInt ((up2_o hV28 (by decide)).trans ((ajV15 56 (Int32.toNatClampNeg p0) rfl).trans (up2_o hV6 (by decide))))
                have pq268 : (V258 0 71).toInt = ((V15 0 71)).toInt := congrArg Int32.toInt ((up2_k hV258 (by decide)).trans (up2_k hV28 (by decide)))
                have pq269 : (V258 0 72).toInt = ((V15 0 72)).toInt := congrArg Int32.toInt ((up2_k hV258 (by decide)).trans (up2_k hV28 (by decide)))
                exact W.iret (v := 0) hx hb hr (fun t ht hW => ⟨⟨0, (V258, L), rfl, ⟨hMV258, agV258, rfl, (show (V258 0 65).toInt ≤ (V258 0 60).toInt from by (first | exact om_842ee80c0797 n1 pq259 pq260 | omega)), (show (V258 0 73).toInt - (V258 0 65).toInt ≤ (V 0 73).toInt - (V 0 65).toInt + 300 from by (first | exact om_763a2df3161d pq259 pq261 | omega)), (show (V258 0 76).toInt - (V258 0 69).toInt - (V258 0 73).toInt ≤ (V 0 76).toInt - (V 0 69).toInt - (V 0 73).toInt + 3000 from by (first | exact om_b7d0129991c5 r4.1 r5.2 t10 pq261 pq262 pq263 | omega)), r0266, (fun h9 => by have h1 := h9.1; have h2 := h9.2.1.1; have h3 := h9.2.1.2.1; have h4 := h9.2.1.2.2; have h5 := h9.2.2.1.1; have h6 := h9.2.2.1.2.1; have h7 := h9.2.2.1.2.2; have h8 := h9.2.2.2.1; have h10 := h9.2.2.2.2; have nw9 : (V 35 (nwh V)).toInt = (V 35 (Int32.toNatClampNeg (V 0 11))).toInt := rfl; exfalso; omega), (fun _ => ⟨by decide, by rw [mV_ag (show agr [(0, 70), (0, 76)] [] V15 V258 from (agr.up (agr.up agr.rf hV28 rfl) hV258 rfl)) (by decide), mb9], (show (V258 0 71).toInt = 0 from by (first | exact om_36161e850215 t14.1 pq268 | omega)), (show (V258 0 72).toInt = 0 from by (first | exact om_36161e850215 t14.2 pq269 | omega))⟩), (fun h9 => RJm.ag (bkq (by rw [show V 0 54 = V258 0 54 from ((show agr [(0, 0), (0, 69), (0, 70), (0, 71), (0, 72), (0, 76), (0, 93), (0, 95), (0, 98)] [] V V258 from (agr.up (agr.up (agr.tr (agr.up agr.rf hV6 rfl) ajV15 (by decide) (by decide)) hV28 rfl) hV258 rfl)) 0 54 rfl).symm]; exact h9)).2.2 (agr.d95 (show agr [(0, 0), (0, 69), (0, 70), (0, 71), (0, 72), (0, 76), (0, 93), (0, 95), (0, 98)] [] V V258 from (agr.up (agr.up (agr.tr (agr.up agr.rf hV6 rfl) ajV15 (by decide) (by decide)) hV28 rfl) hV258 rfl)) (show (V258 0 95).toInt = (V 0 95).toInt from by (first | exact om_844449b06c38 fz t13 pq264 | omega))) (by decide))⟩, by rw [ht]; exact hP, va_K.moved hW.alike hK, hD⟩, hS.F ht⟩) hS.2.2 dX12_call_109
              · skip
                have f270 : z252.toInt = 0 := b_eq rfl (by decide) c256
                refine lv_iconst (v := 3) hx hb dX12_call_100 (by decide) ?_
                refine lv_goto (tgt := 105) hx hb dX12_call_101 (by decide) ?_
                refine va_put (D := D) (ci := 12) (v := .int 3) (ty := tyX12 70) (C := RX12) (T := TX12) (N := 100) hx hb hg inX12 tyX12 tyX12_ok nmX12 hown hK hP hD hS 0 rfl rfl 70 (by decide) (hg _ w1776) (fun _ h9 => h9) rfl (tyX12_ok 70 (by decide)) rfl rfl (Nat.le_of_ble_eq_true rfl) dX12_call_105 (fun H locs hP hD hS => ?_)
                obtain ⟨V271, hV271⟩ : ∃ z, z = up2 V28 0 70 3 := ⟨_, rfl⟩
                have hP : va_P D vwCl (mw ad kk ks.1 V271 L) H := by rw [hV271]; exact hP
                have hD : va_D A (mw ad kk ks.1 V271 L) := by rw [hV271]; exact hD
                have hMV271 : rgd bM V271 := hMV28.put hV271 (i_full _)
                have agV271 : agr [(0, 0), (0, 60), (0, 65), (0, 68), (0, 69), (0, 70), (0, 71), (0, 72), (0, 73), (0, 76), (0, 90), (0, 91), (0, 92), (0, 93), (0, 95), (0, 96), (0, 98)] [59, 61, 62, 63, 64, 66, 67, 74, 75, 77, 78, 79, 80, 94, 97] V V271 := agV28.up hV271 rfl
                refine lv_iconst (v := 0) hx hb dX12_call_108 (by decide) ?_
                have pq272 : (V271 0 65).toInt = ((V 0 65)).toInt := congrArg Int32.toInt ((up2_k hV271 (by decide)).trans ((up2_k hV28 (by decide)).trans ((ajV15 0 65 rfl).trans (up2_k hV6 (by decide)))))
                have pq273 : (V271 0 60).toInt = ((V 0 60)).toInt := congrArg Int32.toInt ((up2_k hV271 (by decide)).trans ((up2_k hV28 (by decide)).trans ((ajV15 0 60 rfl).trans (up2_k hV6 (by decide)))))
                have pq274 : (V271 0 73).toInt = ((V 0 73)).toInt := congrArg Int32.toInt ((up2_k hV271 (by decide)).trans ((up2_k hV28 (by decide)).trans ((ajV15 0 73 rfl).trans (up2_k hV6 (by decide)))))
                have pq275 : (V271 0 76).toInt = 0 := (congrArg Int32.toInt ((up2_k hV271 (by decide)).trans (up2_s hV28))).trans (by decide)
                have pq276 : (V271 0 69).toInt = ((V15 0 69)).toInt := congrArg Int32.toInt ((up2_k hV271 (by decide)).trans (up2_k hV28 (by decide)))
                have pq277 : (V271 0 95).toInt = ((V15 0 95)).toInt := congrArg Int32.toInt ((up2_k hV271 (by decide)).trans (up2_k hV28 (by decide)))
                have fz278 : (V 0 95).toInt = 0 := r0.2.2.2.2
                have r0279 : RT0 V271 := RT0.ag r0 hMV (show agr [(0, 0), (0, 69), (0, 70), (0, 71), (0, 72), (0, 76), (0, 93), (0, 95), (0, 98)] [] V V271 from (agr.up (agr.up (agr.tr (agr.up agr.rf hV6 rfl) ajV15 (by decide) (by decide)) hV28 rfl) hV271 rfl)) ⟨⟨rfl, fun _ => rfl, fun _ => rfl, fun _ => rfl, fun _ => rfl, fun _ => rfl, fun _ => rfl⟩, by decide, by decide, rfl, rfl, fun _ => rfl, fun _ => rfl, fun _ => rfl⟩ (c0k.ag (show agr [(0, 0), (0, 69), (0, 70), (0, 71), (0, 72), (0, 76), (0, 93), (0, 95), (0, 98)] [] V V271 from (agr.up (agr.up (agr.tr (agr.up agr.rf hV6 rfl) ajV15 (by decide) (by decide)) hV28 rfl) hV271 rfl)) rfl) (by (first | exact om_36161e850215 t13 pq277 | omega))
                have pq280 : (V28 56 (Int32.toNatClampNeg p0)).toInt = ((V 56 (Int32.toNatClampNeg p0))).toInt := congrArg Int32.toInt ((up2_o hV28 (by decide)).trans ((ajV15 56 (Int32.toNatClampNeg p0) rfl).trans (up2_o hV6 (by decide))))
                have pq281 : (V271 0 71).toInt = ((V15 0 71)).toInt := congrArg Int32.toInt ((up2_k hV271 (by decide)).trans (up2_k hV28 (by decide)))
                have pq282 : (V271 0 72).toInt = ((V15 0 72)).toInt := congrArg Int32.toInt ((up2_k hV271 (by decide)).trans (up2_k hV28 (by decide)))
                exact W.iret (v := 0) hx hb hr (fun t ht hW => ⟨⟨0, (V271, L), rfl, ⟨hMV271, agV271, rfl, (show (V271 0 65).toInt ≤ (V271 0 60).toInt from by (first | exact om_842ee80c0797 n1 pq272 pq273 | omega)), (show (V271 0 73).toInt - (V271 0 65).toInt ≤ (V 0 73).toInt - (V 0 65).toInt + 300 from by (first | exact om_763a2df3161d pq272 pq274 | omega)), (show (V271 0 76).toInt - (V271 0 69).toInt - (V271 0 73).toInt ≤ (V 0 76).toInt - (V 0 69).toInt - (V 0 73).toInt + 3000 from by (first | exact om_b7d0129991c5 r4.1 r5.2 t10 pq274 pq275 pq276 | omega)), r0279, (fun h9 => by have h1 := h9.1; have h2 := h9.2.1.1; have h3 := h9.2.1.2.1; have h4 := h9.2.1.2.2; have h5 := h9.2.2.1.1; have h6 := h9.2.2.1.2.1; have h7 := h9.2.2.1.2.2; have h8 := h9.2.2.2.1; have h10 := h9.2.2.2.2; have nw9 : (V 35 (nwh V)).toInt = (V 35 (Int32.toNatClampNeg (V 0 11))).toInt := rfl; exfalso; omega), (fun _ => ⟨by decide, by rw [mV_ag (show agr [(0, 70), (0, 76)] [] V15 V271 from (agr.up (agr.up agr.rf hV28 rfl) hV271 rfl)) (by decide), mb9], (show (V271 0 71).toInt = 0 from by (first | exact om_36161e850215 t14.1 pq281 | omega)), (show (V271 0 72).toInt = 0 from by (first | exact om_36161e850215 t14.2 pq282 | omega))⟩), (fun h9 => RJm.ag (bkq (by rw [show V 0 54 = V271 0 54 from ((show agr [(0, 0), (0, 69), (0, 70), (0, 71), (0, 72), (0, 76), (0, 93), (0, 95), (0, 98)] [] V V271 from (agr.up (agr.up (agr.tr (agr.up agr.rf hV6 rfl) ajV15 (by decide) (by decide)) hV28 rfl) hV271 rfl)) 0 54 rfl).symm]; exact h9)).2.2 (agr.d95 (show agr [(0, 0), (0, 69), (0, 70), (0, 71), (0, 72), (0, 76), (0, 93), (0, 95), (0, 98)] [] V V271 from (agr.up (agr.up (agr.tr (agr.up agr.rf hV6 rfl) ajV15 (by decide) (by decide)) hV28 rfl) hV271 rfl)) (show (V271 0 95).toInt = (V 0 95).toInt from by (first | exact om_844449b06c38 fz t13 pq277 | omega))) (by decide))⟩, by rw [ht]; exact hP, va_K.moved hW.alike hK, hD⟩, hS.F ht⟩) hS.2.2 dX12_call_109
            · skip
              have f283 : ((V 0 54)).toInt = 0 := b_eq rfl (by decide) c250
              exfalso; (first | exact om_0abcda13baee r225.1 f242 f283 | omega)
          · skip
            have f284 : z243.toInt ≠ 0 := b_neq rfl (by decide) c248
            refine lv_iload hx hb dX12_call_75 (lv_at hl 0 rfl) ?_
            refine lv_if_ne (tgt := 110) hx hb dX12_call_77 (by decide) (fun q => absurd rfl q) (fun _ => ?_)
            refine lv_aload_n hx hb dX12_call_80 rfl (lv_at hl 1 rfl) ?_
            refine lv_aload_n hx hb dX12_call_81 rfl (lv_at hl 1 rfl) ?_
            refine va_get (D := D) (ci := 12) (v := .int (V28 0 54)) (C := RX12) (T := TX12) (N := 100) hx hb hg inX12 hown hK hP 0 rfl rfl 54 (by decide) (hg _ w1760) (fun _ h9 => h9) rfl dX12_call_82 ?_
            refine g_top (v := (V 0 54)) ((up2_k hV28 (by decide)).trans ((ajV15 0 54 rfl).trans (up2_k hV6 (by decide)))) ?_
            refine lv_if_ne (tgt := 92) hx hb dX12_call_85 (by decide) (fun c285 => ?_) (fun c285 => ?_)
            · skip
              have f286 : ((V 0 54)).toInt ≠ 0 := b_neq rfl (by decide) c285
              refine lv_aload_n hx hb dX12_call_92 rfl (lv_at hl 1 rfl) ?_
              refine lv_iload_n hx hb dX12_call_93 rfl (lv_at hl 2 rfl) ?_
              refine gA_int (gA_runV (As := [.int p0]) (rest := [.ref (ad 0)]) (ci := 12) (q0 := 0) hx hb hml hown hg hP hD hK hS hA hnw hgk (s_isScope3 l D ks H.size ad kk V28 L p0 hMV28 ) w2223 w2225 w126 w172 w2226 rfl rfl hdV_yX12_isScope ⟨Nat.le_of_ble_eq_true rfl, Nat.le_of_ble_eq_true rfl⟩ rfl hl.1 rfl (Nat.le_of_ble_eq_true rfl) dX12_call_94 ⟨Nat.le_of_ble_eq_true rfl, Nat.le_of_ble_eq_true rfl⟩) hP hD hK hS hA (fun z287 u288 H locs w289 hP hD hK hS => ?_)
              obtain ⟨rgz287, t290⟩ := w289
              have rgz287 : 0 ≤ z287.toInt ∧ z287.toInt ≤ 1 := rgz287
              have t290 : (z287.toInt = 1 ∧ 0 ≤ p0.toInt ∧ p0.toInt < (V28 0 55).toInt ∧ (V28 56 (Int32.toNatClampNeg p0)).toInt = 1) ∨ (z287.toInt = 0 ∧ (p0.toInt < 0 ∨ (V28 0 55).toInt ≤ p0.toInt ∨ (V28 56 (Int32.toNatClampNeg p0)).toInt = 0)) := t290
              refine lv_if_ne (tgt := 104) hx hb dX12_call_97 (by decide) (fun c291 => ?_) (fun c291 => ?_)
              · skip
                have f292 : z287.toInt ≠ 0 := b_neq rfl (by decide) c291
                refine lv_iconst (v := 4) hx hb dX12_call_104 (by decide) ?_
                refine va_put (D := D) (ci := 12) (v := .int 4) (ty := tyX12 70) (C := RX12) (T := TX12) (N := 100) hx hb hg inX12 tyX12 tyX12_ok nmX12 hown hK hP hD hS 0 rfl rfl 70 (by decide) (hg _ w1776) (fun _ h9 => h9) rfl (tyX12_ok 70 (by decide)) rfl rfl (Nat.le_of_ble_eq_true rfl) dX12_call_105 (fun H locs hP hD hS => ?_)
                obtain ⟨V293, hV293⟩ : ∃ z, z = up2 V28 0 70 4 := ⟨_, rfl⟩
                have hP : va_P D vwCl (mw ad kk ks.1 V293 L) H := by rw [hV293]; exact hP
                have hD : va_D A (mw ad kk ks.1 V293 L) := by rw [hV293]; exact hD
                have hMV293 : rgd bM V293 := hMV28.put hV293 (i_full _)
                have agV293 : agr [(0, 0), (0, 60), (0, 65), (0, 68), (0, 69), (0, 70), (0, 71), (0, 72), (0, 73), (0, 76), (0, 90), (0, 91), (0, 92), (0, 93), (0, 95), (0, 96), (0, 98)] [59, 61, 62, 63, 64, 66, 67, 74, 75, 77, 78, 79, 80, 94, 97] V V293 := agV28.up hV293 rfl
                refine lv_iconst (v := 0) hx hb dX12_call_108 (by decide) ?_
                have pq294 : (V293 0 65).toInt = ((V 0 65)).toInt := congrArg Int32.toInt ((up2_k hV293 (by decide)).trans ((up2_k hV28 (by decide)).trans ((ajV15 0 65 rfl).trans (up2_k hV6 (by decide)))))
                have pq295 : (V293 0 60).toInt = ((V 0 60)).toInt := congrArg Int32.toInt ((up2_k hV293 (by decide)).trans ((up2_k hV28 (by decide)).trans ((ajV15 0 60 rfl).trans (up2_k hV6 (by decide)))))
                have pq296 : (V293 0 73).toInt = ((V 0 73)).toInt := congrArg Int32.toInt ((up2_k hV293 (by decide)).trans ((up2_k hV28 (by decide)).trans ((ajV15 0 73 rfl).trans (up2_k hV6 (by decide)))))
                have pq297 : (V293 0 76).toInt = 0 := (congrArg Int32.toInt ((up2_k hV293 (by decide)).trans (up2_s hV28))).trans (by decide)
                have pq298 : (V293 0 69).toInt = ((V15 0 69)).toInt := congrArg Int32.toInt ((up2_k hV293 (by decide)).trans (up2_k hV28 (by decide)))
                have pq299 : (V293 0 95).toInt = ((V15 0 95)).toInt := congrArg Int32.toInt ((up2_k hV293 (by decide)).trans (up2_k hV28 (by decide)))
                have fz300 : (V 0 95).toInt = 0 := r0.2.2.2.2
                have r0301 : RT0 V293 := RT0.ag r0 hMV (show agr [(0, 0), (0, 69), (0, 70), (0, 71), (0, 72), (0, 76), (0, 93), (0, 95), (0, 98)] [] V V293 from (agr.up (agr.up (agr.tr (agr.up agr.rf hV6 rfl) ajV15 (by decide) (by decide)) hV28 rfl) hV293 rfl)) ⟨⟨rfl, fun _ => rfl, fun _ => rfl, fun _ => rfl, fun _ => rfl, fun _ => rfl, fun _ => rfl⟩, by decide, by decide, rfl, rfl, fun _ => rfl, fun _ => rfl, fun _ => rfl⟩ (c0k.ag (show agr [(0, 0), (0, 69), (0, 70), (0, 71), (0, 72), (0, 76), (0, 93), (0, 95), (0, 98)] [] V V293 from (agr.up (agr.up (agr.tr (agr.up agr.rf hV6 rfl) ajV15 (by decide) (by decide)) hV28 rfl) hV293 rfl)) rfl) (by (first | exact om_36161e850215 t13 pq299 | omega))
                have pq302 : (V28 56 (Int32.toNatClampNeg p0)).toInt = ((V 56 (Int32.toNatClampNeg p0))).toInt := congrArg Int32.toInt ((up2_o hV28 (by decide)).trans ((ajV15 56 (Int32.toNatClampNeg p0) rfl).trans (up2_o hV6 (by decide))))
                have pq303 : (V293 0 71).toInt = ((V15 0 71)).toInt := congrArg Int32.toInt ((up2_k hV293 (by decide)).trans (up2_k hV28 (by decide)))
                have pq304 : (V293 0 72).toInt = ((V15 0 72)).toInt := congrArg Int32.toInt ((up2_k hV293 (by decide)).trans (up2_k hV28 (by decide)))
                exact W.iret (v := 0) hx hb hr (fun t ht hW => ⟨⟨0, (V293, L), rfl, ⟨hMV293, agV293, rfl, (show (V293 0 65).toInt ≤ (V293 0 60).toInt from by (first | exact om_842ee80c0797 n1 pq294 pq295 | omega)), (show (V293 0 73).toInt - (V293 0 65).toInt ≤ (V 0 73).toInt - (V 0 65).toInt + 300 from by (first | exact om_763a2df3161d pq294 pq296 | omega)), (show (V293 0 76).toInt - (V293 0 69).toInt - (V293 0 73).toInt ≤ (V 0 76).toInt - (V 0 69).toInt - (V 0 73).toInt + 3000 from by (first | exact om_b7d0129991c5 r4.1 r5.2 t10 pq296 pq297 pq298 | omega)), r0301, (fun h9 => by have h1 := h9.1; have h2 := h9.2.1.1; have h3 := h9.2.1.2.1; have h4 := h9.2.1.2.2; have h5 := h9.2.2.1.1; have h6 := h9.2.2.1.2.1; have h7 := h9.2.2.1.2.2; have h8 := h9.2.2.2.1; have h10 := h9.2.2.2.2; have nw9 : (V 35 (nwh V)).toInt = (V 35 (Int32.toNatClampNeg (V 0 11))).toInt := rfl; exfalso; omega), (fun _ => ⟨by decide, by rw [mV_ag (show agr [(0, 70), (0, 76)] [] V15 V293 from (agr.up (agr.up agr.rf hV28 rfl) hV293 rfl)) (by decide), mb9], (show (V293 0 71).toInt = 0 from by (first | exact om_36161e850215 t14.1 pq303 | omega)), (show (V293 0 72).toInt = 0 from by (first | exact om_36161e850215 t14.2 pq304 | omega))⟩), (fun h9 => RJm.ag (bkq (by rw [show V 0 54 = V293 0 54 from ((show agr [(0, 0), (0, 69), (0, 70), (0, 71), (0, 72), (0, 76), (0, 93), (0, 95), (0, 98)] [] V V293 from (agr.up (agr.up (agr.tr (agr.up agr.rf hV6 rfl) ajV15 (by decide) (by decide)) hV28 rfl) hV293 rfl)) 0 54 rfl).symm]; exact h9)).2.2 (agr.d95 (show agr [(0, 0), (0, 69), (0, 70), (0, 71), (0, 72), (0, 76), (0, 93), (0, 95), (0, 98)] [] V V293 from (agr.up (agr.up (agr.tr (agr.up agr.rf hV6 rfl) ajV15 (by decide) (by decide)) hV28 rfl) hV293 rfl)) (show (V293 0 95).toInt = (V 0 95).toInt from by (first | exact om_844449b06c38 fz t13 pq299 | omega))) (by decide))⟩, by rw [ht]; exact hP, va_K.moved hW.alike hK, hD⟩, hS.F ht⟩) hS.2.2 dX12_call_109
              · skip
                have f305 : z287.toInt = 0 := b_eq rfl (by decide) c291
                refine lv_iconst (v := 3) hx hb dX12_call_100 (by decide) ?_
                refine lv_goto (tgt := 105) hx hb dX12_call_101 (by decide) ?_
                refine va_put (D := D) (ci := 12) (v := .int 3) (ty := tyX12 70) (C := RX12) (T := TX12) (N := 100) hx hb hg inX12 tyX12 tyX12_ok nmX12 hown hK hP hD hS 0 rfl rfl 70 (by decide) (hg _ w1776) (fun _ h9 => h9) rfl (tyX12_ok 70 (by decide)) rfl rfl (Nat.le_of_ble_eq_true rfl) dX12_call_105 (fun H locs hP hD hS => ?_)
                obtain ⟨V306, hV306⟩ : ∃ z, z = up2 V28 0 70 3 := ⟨_, rfl⟩
                have hP : va_P D vwCl (mw ad kk ks.1 V306 L) H := by rw [hV306]; exact hP
                have hD : va_D A (mw ad kk ks.1 V306 L) := by rw [hV306]; exact hD
                have hMV306 : rgd bM V306 := hMV28.put hV306 (i_full _)
                have agV306 : agr [(0, 0), (0, 60), (0, 65), (0, 68), (0, 69), (0, 70), (0, 71), (0, 72), (0, 73), (0, 76), (0, 90), (0, 91), (0, 92), (0, 93), (0, 95), (0, 96), (0, 98)] [59, 61, 62, 63, 64, 66, 67, 74, 75, 77, 78, 79, 80, 94, 97] V V306 := agV28.up hV306 rfl
                refine lv_iconst (v := 0) hx hb dX12_call_108 (by decide) ?_
                have pq307 : (V306 0 65).toInt = ((V 0 65)).toInt := congrArg Int32.toInt ((up2_k hV306 (by decide)).trans ((up2_k hV28 (by decide)).trans ((ajV15 0 65 rfl).trans (up2_k hV6 (by decide)))))
                have pq308 : (V306 0 60).toInt = ((V 0 60)).toInt := congrArg Int32.toInt ((up2_k hV306 (by decide)).trans ((up2_k hV28 (by decide)).trans ((ajV15 0 60 rfl).trans (up2_k hV6 (by decide)))))
                have pq309 : (V306 0 73).toInt = ((V 0 73)).toInt := congrArg Int32.toInt ((up2_k hV306 (by decide)).trans ((up2_k hV28 (by decide)).trans ((ajV15 0 73 rfl).trans (up2_k hV6 (by decide)))))
                have pq310 : (V306 0 76).toInt = 0 := (congrArg Int32.toInt ((up2_k hV306 (by decide)).trans (up2_s hV28))).trans (by decide)
                have pq311 : (V306 0 69).toInt = ((V15 0 69)).toInt := congrArg Int32.toInt ((up2_k hV306 (by decide)).trans (up2_k hV28 (by decide)))
                have pq312 : (V306 0 95).toInt = ((V15 0 95)).toInt := congrArg Int32.toInt ((up2_k hV306 (by decide)).trans (up2_k hV28 (by decide)))
                have fz313 : (V 0 95).toInt = 0 := r0.2.2.2.2
                have r0314 : RT0 V306 := RT0.ag r0 hMV (show agr [(0, 0), (0, 69), (0, 70), (0, 71), (0, 72), (0, 76), (0, 93), (0, 95), (0, 98)] [] V V306 from (agr.up (agr.up (agr.tr (agr.up agr.rf hV6 rfl) ajV15 (by decide) (by decide)) hV28 rfl) hV306 rfl)) ⟨⟨rfl, fun _ => rfl, fun _ => rfl, fun _ => rfl, fun _ => rfl, fun _ => rfl, fun _ => rfl⟩, by decide, by decide, rfl, rfl, fun _ => rfl, fun _ => rfl, fun _ => rfl⟩ (c0k.ag (show agr [(0, 0), (0, 69), (0, 70), (0, 71), (0, 72), (0, 76), (0, 93), (0, 95), (0, 98)] [] V V306 from (agr.up (agr.up (agr.tr (agr.up agr.rf hV6 rfl) ajV15 (by decide) (by decide)) hV28 rfl) hV306 rfl)) rfl) (by (first | exact om_36161e850215 t13 pq312 | omega))
                have pq315 : (V28 56 (Int32.toNatClampNeg p0)).toInt = ((V 56 (Int32.toNatClampNeg p0))).toInt := congrArg Int32.toInt ((up2_o hV28 (by decide)).trans ((ajV15 56 (Int32.toNatClampNeg p0) rfl).trans (up2_o hV6 (by decide))))
                have pq316 : (V306 0 71).toInt = ((V15 0 71)).toInt := congrArg Int32.toInt ((up2_k hV306 (by decide)).trans (up2_k hV28 (by decide)))
                have pq317 : (V306 0 72).toInt = ((V15 0 72)).toInt := congrArg Int32.toInt ((up2_k hV306 (by decide)).trans (up2_k hV28 (by decide)))
                exact W.iret (v := 0) hx hb hr (fun t ht hW => ⟨⟨0, (V306, L), rfl, ⟨hMV306, agV306, rfl, (show (V306 0 65).toInt ≤ (V306 0 60).toInt from by (first | exact om_842ee80c0797 n1 pq307 pq308 | omega)), (show (V306 0 73).toInt - (V306 0 65).toInt ≤ (V 0 73).toInt - (V 0 65).toInt + 300 from by (first | exact om_763a2df3161d pq307 pq309 | omega)), (show (V306 0 76).toInt - (V306 0 69).toInt - (V306 0 73).toInt ≤ (V 0 76).toInt - (V 0 69).toInt - (V 0 73).toInt + 3000 from by (first | exact om_b7d0129991c5 r4.1 r5.2 t10 pq309 pq310 pq311 | omega)), r0314, (fun h9 => by have h1 := h9.1; have h2 := h9.2.1.1; have h3 := h9.2.1.2.1; have h4 := h9.2.1.2.2; have h5 := h9.2.2.1.1; have h6 := h9.2.2.1.2.1; have h7 := h9.2.2.1.2.2; have h8 := h9.2.2.2.1; have h10 := h9.2.2.2.2; have nw9 : (V 35 (nwh V)).toInt = (V 35 (Int32.toNatClampNeg (V 0 11))).toInt := rfl; exfalso; omega), (fun _ => ⟨by decide, by rw [mV_ag (show agr [(0, 70), (0, 76)] [] V15 V306 from (agr.up (agr.up agr.rf hV28 rfl) hV306 rfl)) (by decide), mb9], (show (V306 0 71).toInt = 0 from by (first | exact om_36161e850215 t14.1 pq316 | omega)), (show (V306 0 72).toInt = 0 from by (first | exact om_36161e850215 t14.2 pq317 | omega))⟩), (fun h9 => RJm.ag (bkq (by rw [show V 0 54 = V306 0 54 from ((show agr [(0, 0), (0, 69), (0, 70), (0, 71), (0, 72), (0, 76), (0, 93), (0, 95), (0, 98)] [] V V306 from (agr.up (agr.up (agr.tr (agr.up agr.rf hV6 rfl) ajV15 (by decide) (by decide)) hV28 rfl) hV306 rfl)) 0 54 rfl).symm]; exact h9)).2.2 (agr.d95 (show agr [(0, 0), (0, 69), (0, 70), (0, 71), (0, 72), (0, 76), (0, 93), (0, 95), (0, 98)] [] V V306 from (agr.up (agr.up (agr.tr (agr.up agr.rf hV6 rfl) ajV15 (by decide) (by decide)) hV28 rfl) hV306 rfl)) (show (V306 0 95).toInt = (V 0 95).toInt from by (first | exact om_844449b06c38 fz t13 pq312 | omega))) (by decide))⟩, by rw [ht]; exact hP, va_K.moved hW.alike hK, hD⟩, hS.F ht⟩) hS.2.2 dX12_call_109
            · skip
              have f318 : ((V 0 54)).toInt = 0 := b_eq rfl (by decide) c285
              exfalso; (first | exact om_0abcda13baee r225.1 f242 f318 | omega)
      · skip
        have f319 : ((V 63 (Int32.toNatClampNeg p1))).toInt = 1 := b_eq rfl (by decide) c223
        refine lv_iload_n hx hb dX12_call_36 rfl (lv_at hl 3 rfl) ?_
        refine lv_if_lt (tgt := 57) hx hb dX12_call_37 (by decide) (fun c320 => ?_) (fun c320 => ?_)
        · skip
          have f321 : p2.toInt < 0 := b_lt rfl (by decide) c320
          refine lv_iconst (v := 0) hx hb dX12_call_57 (by decide) ?_
          refine lv_istore (lv' := [(5, .int 0), (0, .ref (ad 0)), (1, .int p0), (2, .int p1), (3, .int p2), (4, .int p3)]) hx hb dX12_call_58 hl (by decide) rfl (fun ls hl => ?_)
          refine lv_aload_n hx hb dX12_call_60 rfl (lv_at hl 1 rfl) ?_
          refine va_get (D := D) (ci := 12) (v := .int (V28 0 54)) (C := RX12) (T := TX12) (N := 100) hx hb hg inX12 hown hK hP 0 rfl rfl 54 (by decide) (hg _ w1760) (fun _ h9 => h9) rfl dX12_call_61 ?_
          refine g_top (v := (V 0 54)) ((up2_k hV28 (by decide)).trans ((ajV15 0 54 rfl).trans (up2_k hV6 (by decide)))) ?_
          have r322 : 0 ≤ ((V 0 54)).toInt ∧ ((V 0 54)).toInt ≤ 1 := hMV 0 54
          refine lv_if_eq (tgt := 80) hx hb dX12_call_64 (by decide) (fun c323 => ?_) (fun c323 => ?_)
          · skip
            have f324 : ((V 0 54)).toInt = 0 := b_eq rfl (by decide) c323
            refine lv_aload_n hx hb dX12_call_80 rfl (lv_at hl 1 rfl) ?_
            refine lv_aload_n hx hb dX12_call_81 rfl (lv_at hl 1 rfl) ?_
            refine va_get (D := D) (ci := 12) (v := .int (V28 0 54)) (C := RX12) (T := TX12) (N := 100) hx hb hg inX12 hown hK hP 0 rfl rfl 54 (by decide) (hg _ w1760) (fun _ h9 => h9) rfl dX12_call_82 ?_
            refine g_top (v := (V 0 54)) ((up2_k hV28 (by decide)).trans ((ajV15 0 54 rfl).trans (up2_k hV6 (by decide)))) ?_
            refine lv_if_ne (tgt := 92) hx hb dX12_call_85 (by decide) (fun c325 => ?_) (fun c325 => ?_)
            · skip
              have f326 : ((V 0 54)).toInt ≠ 0 := b_neq rfl (by decide) c325
              exfalso; (first | exact om_fb320d7600b7 r322.1 f324 f326 | omega)
            · skip
              have f327 : ((V 0 54)).toInt = 0 := b_eq rfl (by decide) c325
              refine lv_iconst (v := 4) hx hb dX12_call_88 (by decide) ?_
              refine lv_goto (tgt := 105) hx hb dX12_call_89 (by decide) ?_
              refine va_put (D := D) (ci := 12) (v := .int 4) (ty := tyX12 70) (C := RX12) (T := TX12) (N := 100) hx hb hg inX12 tyX12 tyX12_ok nmX12 hown hK hP hD hS 0 rfl rfl 70 (by decide) (hg _ w1776) (fun _ h9 => h9) rfl (tyX12_ok 70 (by decide)) rfl rfl (Nat.le_of_ble_eq_true rfl) dX12_call_105 (fun H locs hP hD hS => ?_)
              obtain ⟨V328, hV328⟩ : ∃ z, z = up2 V28 0 70 4 := ⟨_, rfl⟩
              have hP : va_P D vwCl (mw ad kk ks.1 V328 L) H := by rw [hV328]; exact hP
              have hD : va_D A (mw ad kk ks.1 V328 L) := by rw [hV328]; exact hD
              have hMV328 : rgd bM V328 := hMV28.put hV328 (i_full _)
              have agV328 : agr [(0, 0), (0, 60), (0, 65), (0, 68), (0, 69), (0, 70), (0, 71), (0, 72), (0, 73), (0, 76), (0, 90), (0, 91), (0, 92), (0, 93), (0, 95), (0, 96), (0, 98)] [59, 61, 62, 63, 64, 66, 67, 74, 75, 77, 78, 79, 80, 94, 97] V V328 := agV28.up hV328 rfl
              refine lv_iconst (v := 0) hx hb dX12_call_108 (by decide) ?_
              have pq329 : (V328 0 65).toInt = ((V 0 65)).toInt := congrArg Int32.toInt ((up2_k hV328 (by decide)).trans ((up2_k hV28 (by decide)).trans ((ajV15 0 65 rfl).trans (up2_k hV6 (by decide)))))
              have pq330 : (V328 0 60).toInt = ((V 0 60)).toInt := congrArg Int32.toInt ((up2_k hV328 (by decide)).trans ((up2_k hV28 (by decide)).trans ((ajV15 0 60 rfl).trans (up2_k hV6 (by decide)))))
              have pq331 : (V328 0 73).toInt = ((V 0 73)).toInt := congrArg Int32.toInt ((up2_k hV328 (by decide)).trans ((up2_k hV28 (by decide)).trans ((ajV15 0 73 rfl).trans (up2_k hV6 (by decide)))))
              have pq332 : (V328 0 76).toInt = 0 := (congrArg Int32.toInt ((up2_k hV328 (by decide)).trans (up2_s hV28))).trans (by decide)
              have pq333 : (V328 0 69).toInt = ((V15 0 69)).toInt := congrArg Int32.toInt ((up2_k hV328 (by decide)).trans (up2_k hV28 (by decide)))
              have pq334 : (V328 0 95).toInt = ((V15 0 95)).toInt := congrArg Int32.toInt ((up2_k hV328 (by decide)).trans (up2_k hV28 (by decide)))
              have fz335 : (V 0 95).toInt = 0 := r0.2.2.2.2
              have r0336 : RT0 V328 := RT0.ag r0 hMV (show agr [(0, 0), (0, 69), (0, 70), (0, 71), (0, 72), (0, 76), (0, 93), (0, 95), (0, 98)] [] V V328 from (agr.up (agr.up (agr.tr (agr.up agr.rf hV6 rfl) ajV15 (by decide) (by decide)) hV28 rfl) hV328 rfl)) ⟨⟨rfl, fun _ => rfl, fun _ => rfl, fun _ => rfl, fun _ => rfl, fun _ => rfl, fun _ => rfl⟩, by decide, by decide, rfl, rfl, fun _ => rfl, fun _ => rfl, fun _ => rfl⟩ (c0k.ag (show agr [(0, 0), (0, 69), (0, 70), (0, 71), (0, 72), (0, 76), (0, 93), (0, 95), (0, 98)] [] V V328 from (agr.up (agr.up (agr.tr (agr.up agr.rf hV6 rfl) ajV15 (by decide) (by decide)) hV28 rfl) hV328 rfl)) rfl) (by (first | exact om_36161e850215 t13 pq334 | omega))
              have pq337 : (V328 0 71).toInt = ((V15 0 71)).toInt := congrArg Int32.toInt ((up2_k hV328 (by decide)).trans (up2_k hV28 (by decide)))
              have pq338 : (V328 0 72).toInt = ((V15 0 72)).toInt := congrArg Int32.toInt ((up2_k hV328 (by decide)).trans (up2_k hV28 (by decide)))
              exact W.iret (v := 0) hx hb hr (fun t ht hW => ⟨⟨0, (V328, L), rfl, ⟨hMV328, agV328, rfl, (show (V328 0 65).toInt ≤ (V328 0 60).toInt from by (first | exact om_842ee80c0797 n1 pq329 pq330 | omega)), (show (V328 0 73).toInt - (V328 0 65).toInt ≤ (V 0 73).toInt - (V 0 65).toInt + 300 from by (first | exact om_763a2df3161d pq329 pq331 | omega)), (show (V328 0 76).toInt - (V328 0 69).toInt - (V328 0 73).toInt ≤ (V 0 76).toInt - (V 0 69).toInt - (V 0 73).toInt + 3000 from by (first | exact om_b7d0129991c5 r4.1 r5.2 t10 pq331 pq332 pq333 | omega)), r0336, (fun h9 => by have h1 := h9.1; have h2 := h9.2.1.1; have h3 := h9.2.1.2.1; have h4 := h9.2.1.2.2; have h5 := h9.2.2.1.1; have h6 := h9.2.2.1.2.1; have h7 := h9.2.2.1.2.2; have h8 := h9.2.2.2.1; have h10 := h9.2.2.2.2; have nw9 : (V 35 (nwh V)).toInt = (V 35 (Int32.toNatClampNeg (V 0 11))).toInt := rfl; exfalso; omega), (fun _ => ⟨by decide, by rw [mV_ag (show agr [(0, 70), (0, 76)] [] V15 V328 from (agr.up (agr.up agr.rf hV28 rfl) hV328 rfl)) (by decide), mb9], (show (V328 0 71).toInt = 0 from by (first | exact om_36161e850215 t14.1 pq337 | omega)), (show (V328 0 72).toInt = 0 from by (first | exact om_36161e850215 t14.2 pq338 | omega))⟩), (fun h9 => RJm.ag (bkq (by rw [show V 0 54 = V328 0 54 from ((show agr [(0, 0), (0, 69), (0, 70), (0, 71), (0, 72), (0, 76), (0, 93), (0, 95), (0, 98)] [] V V328 from (agr.up (agr.up (agr.tr (agr.up agr.rf hV6 rfl) ajV15 (by decide) (by decide)) hV28 rfl) hV328 rfl)) 0 54 rfl).symm]; exact h9)).2.2 (agr.d95 (show agr [(0, 0), (0, 69), (0, 70), (0, 71), (0, 72), (0, 76), (0, 93), (0, 95), (0, 98)] [] V V328 from (agr.up (agr.up (agr.tr (agr.up agr.rf hV6 rfl) ajV15 (by decide) (by decide)) hV28 rfl) hV328 rfl)) (show (V328 0 95).toInt = (V 0 95).toInt from by (first | exact om_844449b06c38 fz t13 pq334 | omega))) (by decide))⟩, by rw [ht]; exact hP, va_K.moved hW.alike hK, hD⟩, hS.F ht⟩) hS.2.2 dX12_call_109
          · skip
            have f339 : ((V 0 54)).toInt ≠ 0 := b_neq rfl (by decide) c323
            refine lv_aload_n hx hb dX12_call_67 rfl (lv_at hl 1 rfl) ?_
            refine lv_iload_n hx hb dX12_call_68 rfl (lv_at hl 2 rfl) ?_
            refine gA_int (gA_runV (As := [.int p0]) (rest := []) (ci := 12) (q0 := 0) hx hb hml hown hg hP hD hK hS hA hnw hgk (s_isScope3 l D ks H.size ad kk V28 L p0 hMV28 ) w2223 w2225 w126 w172 w2226 rfl rfl hdV_yX12_isScope ⟨Nat.le_of_ble_eq_true rfl, Nat.le_of_ble_eq_true rfl⟩ rfl hl.1 rfl (Nat.le_of_ble_eq_true rfl) dX12_call_69 ⟨Nat.le_of_ble_eq_true rfl, Nat.le_of_ble_eq_true rfl⟩) hP hD hK hS hA (fun z340 u341 H locs w342 hP hD hK hS => ?_)
            obtain ⟨rgz340, t343⟩ := w342
            have rgz340 : 0 ≤ z340.toInt ∧ z340.toInt ≤ 1 := rgz340
            have t343 : (z340.toInt = 1 ∧ 0 ≤ p0.toInt ∧ p0.toInt < (V28 0 55).toInt ∧ (V28 56 (Int32.toNatClampNeg p0)).toInt = 1) ∨ (z340.toInt = 0 ∧ (p0.toInt < 0 ∨ (V28 0 55).toInt ≤ p0.toInt ∨ (V28 56 (Int32.toNatClampNeg p0)).toInt = 0)) := t343
            have pq344 : (V28 0 55).toInt = ((V 0 55)).toInt := congrArg Int32.toInt ((up2_k hV28 (by decide)).trans ((ajV15 0 55 rfl).trans (up2_k hV6 (by decide))))
            refine lv_if_eq (tgt := 80) hx hb dX12_call_72 (by decide) (fun c345 => ?_) (fun c345 => ?_)
            · skip
              have f346 : z340.toInt = 0 := b_eq rfl (by decide) c345
              refine lv_aload_n hx hb dX12_call_80 rfl (lv_at hl 1 rfl) ?_
              refine lv_aload_n hx hb dX12_call_81 rfl (lv_at hl 1 rfl) ?_
              refine va_get (D := D) (ci := 12) (v := .int (V28 0 54)) (C := RX12) (T := TX12) (N := 100) hx hb hg inX12 hown hK hP 0 rfl rfl 54 (by decide) (hg _ w1760) (fun _ h9 => h9) rfl dX12_call_82 ?_
              refine g_top (v := (V 0 54)) ((up2_k hV28 (by decide)).trans ((ajV15 0 54 rfl).trans (up2_k hV6 (by decide)))) ?_
              refine lv_if_ne (tgt := 92) hx hb dX12_call_85 (by decide) (fun c347 => ?_) (fun c347 => ?_)
              · skip
                have f348 : ((V 0 54)).toInt ≠ 0 := b_neq rfl (by decide) c347
                refine lv_aload_n hx hb dX12_call_92 rfl (lv_at hl 1 rfl) ?_
                refine lv_iload_n hx hb dX12_call_93 rfl (lv_at hl 2 rfl) ?_
                refine gA_int (gA_runV (As := [.int p0]) (rest := [.ref (ad 0)]) (ci := 12) (q0 := 0) hx hb hml hown hg hP hD hK hS hA hnw hgk (s_isScope3 l D ks H.size ad kk V28 L p0 hMV28 ) w2223 w2225 w126 w172 w2226 rfl rfl hdV_yX12_isScope ⟨Nat.le_of_ble_eq_true rfl, Nat.le_of_ble_eq_true rfl⟩ rfl hl.1 rfl (Nat.le_of_ble_eq_true rfl) dX12_call_94 ⟨Nat.le_of_ble_eq_true rfl, Nat.le_of_ble_eq_true rfl⟩) hP hD hK hS hA (fun z349 u350 H locs w351 hP hD hK hS => ?_)
                obtain ⟨rgz349, t352⟩ := w351
                have rgz349 : 0 ≤ z349.toInt ∧ z349.toInt ≤ 1 := rgz349
                have t352 : (z349.toInt = 1 ∧ 0 ≤ p0.toInt ∧ p0.toInt < (V28 0 55).toInt ∧ (V28 56 (Int32.toNatClampNeg p0)).toInt = 1) ∨ (z349.toInt = 0 ∧ (p0.toInt < 0 ∨ (V28 0 55).toInt ≤ p0.toInt ∨ (V28 56 (Int32.toNatClampNeg p0)).toInt = 0)) := t352
                refine lv_if_ne (tgt := 104) hx hb dX12_call_97 (by decide) (fun c353 => ?_) (fun c353 => ?_)
                · skip
                  have f354 : z349.toInt ≠ 0 := b_neq rfl (by decide) c353
                  refine lv_iconst (v := 4) hx hb dX12_call_104 (by decide) ?_
                  refine va_put (D := D) (ci := 12) (v := .int 4) (ty := tyX12 70) (C := RX12) (T := TX12) (N := 100) hx hb hg inX12 tyX12 tyX12_ok nmX12 hown hK hP hD hS 0 rfl rfl 70 (by decide) (hg _ w1776) (fun _ h9 => h9) rfl (tyX12_ok 70 (by decide)) rfl rfl (Nat.le_of_ble_eq_true rfl) dX12_call_105 (fun H locs hP hD hS => ?_)
                  obtain ⟨V355, hV355⟩ : ∃ z, z = up2 V28 0 70 4 := ⟨_, rfl⟩
                  have hP : va_P D vwCl (mw ad kk ks.1 V355 L) H := by rw [hV355]; exact hP
                  have hD : va_D A (mw ad kk ks.1 V355 L) := by rw [hV355]; exact hD
                  have hMV355 : rgd bM V355 := hMV28.put hV355 (i_full _)
                  have agV355 : agr [(0, 0), (0, 60), (0, 65), (0, 68), (0, 69), (0, 70), (0, 71), (0, 72), (0, 73), (0, 76), (0, 90), (0, 91), (0, 92), (0, 93), (0, 95), (0, 96), (0, 98)] [59, 61, 62, 63, 64, 66, 67, 74, 75, 77, 78, 79, 80, 94, 97] V V355 := agV28.up hV355 rfl
                  refine lv_iconst (v := 0) hx hb dX12_call_108 (by decide) ?_
                  have pq356 : (V355 0 65).toInt = ((V 0 65)).toInt := congrArg Int32.toInt ((up2_k hV355 (by decide)).trans ((up2_k hV28 (by decide)).trans ((ajV15 0 65 rfl).trans (up2_k hV6 (by decide)))))
                  have pq357 : (V355 0 60).toInt = ((V 0 60)).toInt := congrArg Int32.toInt ((up2_k hV355 (by decide)).trans ((up2_k hV28 (by decide)).trans ((ajV15 0 60 rfl).trans (up2_k hV6 (by decide)))))
                  have pq358 : (V355 0 73).toInt = ((V 0 73)).toInt := congrArg Int32.toInt ((up2_k hV355 (by decide)).trans ((up2_k hV28 (by decide)).trans ((ajV15 0 73 rfl).trans (up2_k hV6 (by decide)))))
                  have pq359 : (V355 0 76).toInt = 0 := (congrArg Int32.toInt ((up2_k hV355 (by decide)).trans (up2_s hV28))).trans (by decide)
                  have pq360 : (V355 0 69).toInt = ((V15 0 69)).toInt := congrArg Int32.toInt ((up2_k hV355 (by decide)).trans (up2_k hV28 (by decide)))
                  have pq361 : (V355 0 95).toInt = ((V15 0 95)).toInt := congrArg Int32.toInt ((up2_k hV355 (by decide)).trans (up2_k hV28 (by decide)))
                  have fz362 : (V 0 95).toInt = 0 := r0.2.2.2.2
                  have r0363 : RT0 V355 := RT0.ag r0 hMV (show agr [(0, 0), (0, 69), (0, 70), (0, 71), (0, 72), (0, 76), (0, 93), (0, 95), (0, 98)] [] V V355 from (agr.up (agr.up (agr.tr (agr.up agr.rf hV6 rfl) ajV15 (by decide) (by decide)) hV28 rfl) hV355 rfl)) ⟨⟨rfl, fun _ => rfl, fun _ => rfl, fun _ => rfl, fun _ => rfl, fun _ => rfl, fun _ => rfl⟩, by decide, by decide, rfl, rfl, fun _ => rfl, fun _ => rfl, fun _ => rfl⟩ (c0k.ag (show agr [(0, 0), (0, 69), (0, 70), (0, 71), (0, 72), (0, 76), (0, 93), (0, 95), (0, 98)] [] V V355 from (agr.up (agr.up (agr.tr (agr.up agr.rf hV6 rfl) ajV15 (by decide) (by decide)) hV28 rfl) hV355 rfl)) rfl) (by (first | exact om_36161e850215 t13 pq361 | omega))
                  have pq364 : (V28 56 (Int32.toNatClampNeg p0)).toInt = ((V 56 (Int32.toNatClampNeg p0))).toInt := congrArg Int32.toInt ((up2_o hV28 (by decide)).trans ((ajV15 56 (Int32.toNatClampNeg p0) rfl).trans (up2_o hV6 (by decide))))
                  have pq365 : (V355 0 71).toInt = ((V15 0 71)).toInt := congrArg Int32.toInt ((up2_k hV355 (by decide)).trans (up2_k hV28 (by decide)))
                  have pq366 : (V355 0 72).toInt = ((V15 0 72)).toInt := congrArg Int32.toInt ((up2_k hV355 (by decide)).trans (up2_k hV28 (by decide)))
                  exact W.iret (v := 0) hx hb hr (fun t ht hW => ⟨⟨0, (V355, L), rfl, ⟨hMV355, agV355, rfl, (show (V355 0 65).toInt ≤ (V355 0 60).toInt from by (first | exact om_842ee80c0797 n1 pq356 pq357 | omega)), (show (V355 0 73).toInt - (V355 0 65).toInt ≤ (V 0 73).toInt - (V 0 65).toInt + 300 from by (first | exact om_763a2df3161d pq356 pq358 | omega)), (show (V355 0 76).toInt - (V355 0 69).toInt - (V355 0 73).toInt ≤ (V 0 76).toInt - (V 0 69).toInt - (V 0 73).toInt + 3000 from by (first | exact om_b7d0129991c5 r4.1 r5.2 t10 pq358 pq359 pq360 | omega)), r0363, (fun h9 => by have h1 := h9.1; have h2 := h9.2.1.1; have h3 := h9.2.1.2.1; have h4 := h9.2.1.2.2; have h5 := h9.2.2.1.1; have h6 := h9.2.2.1.2.1; have h7 := h9.2.2.1.2.2; have h8 := h9.2.2.2.1; have h10 := h9.2.2.2.2; have nw9 : (V 35 (nwh V)).toInt = (V 35 (Int32.toNatClampNeg (V 0 11))).toInt := rfl; exfalso; omega), (fun _ => ⟨by decide, by rw [mV_ag (show agr [(0, 70), (0, 76)] [] V15 V355 from (agr.up (agr.up agr.rf hV28 rfl) hV355 rfl)) (by decide), mb9], (show (V355 0 71).toInt = 0 from by (first | exact om_36161e850215 t14.1 pq365 | omega)), (show (V355 0 72).toInt = 0 from by (first | exact om_36161e850215 t14.2 pq366 | omega))⟩), (fun h9 => RJm.ag (bkq (by rw [show V 0 54 = V355 0 54 from ((show agr [(0, 0), (0, 69), (0, 70), (0, 71), (0, 72), (0, 76), (0, 93), (0, 95), (0, 98)] [] V V355 from (agr.up (agr.up (agr.tr (agr.up agr.rf hV6 rfl) ajV15 (by decide) (by decide)) hV28 rfl) hV355 rfl)) 0 54 rfl).symm]; exact h9)).2.2 (agr.d95 (show agr [(0, 0), (0, 69), (0, 70), (0, 71), (0, 72), (0, 76), (0, 93), (0, 95), (0, 98)] [] V V355 from (agr.up (agr.up (agr.tr (agr.up agr.rf hV6 rfl) ajV15 (by decide) (by decide)) hV28 rfl) hV355 rfl)) (show (V355 0 95).toInt = (V 0 95).toInt from by (first | exact om_844449b06c38 fz t13 pq361 | omega))) (by decide))⟩, by rw [ht]; exact hP, va_K.moved hW.alike hK, hD⟩, hS.F ht⟩) hS.2.2 dX12_call_109
                · skip
                  have f367 : z349.toInt = 0 := b_eq rfl (by decide) c353
                  refine lv_iconst (v := 3) hx hb dX12_call_100 (by decide) ?_
                  refine lv_goto (tgt := 105) hx hb dX12_call_101 (by decide) ?_
                  refine va_put (D := D) (ci := 12) (v := .int 3) (ty := tyX12 70) (C := RX12) (T := TX12) (N := 100) hx hb hg inX12 tyX12 tyX12_ok nmX12 hown hK hP hD hS 0 rfl rfl 70 (by decide) (hg _ w1776) (fun _ h9 => h9) rfl (tyX12_ok 70 (by decide)) rfl rfl (Nat.le_of_ble_eq_true rfl) dX12_call_105 (fun H locs hP hD hS => ?_)
                  obtain ⟨V368, hV368⟩ : ∃ z, z = up2 V28 0 70 3 := ⟨_, rfl⟩
                  have hP : va_P D vwCl (mw ad kk ks.1 V368 L) H := by rw [hV368]; exact hP
                  have hD : va_D A (mw ad kk ks.1 V368 L) := by rw [hV368]; exact hD
                  have hMV368 : rgd bM V368 := hMV28.put hV368 (i_full _)
                  have agV368 : agr [(0, 0), (0, 60), (0, 65), (0, 68), (0, 69), (0, 70), (0, 71), (0, 72), (0, 73), (0, 76), (0, 90), (0, 91), (0, 92), (0, 93), (0, 95), (0, 96), (0, 98)] [59, 61, 62, 63, 64, 66, 67, 74, 75, 77, 78, 79, 80, 94, 97] V V368 := agV28.up hV368 rfl
                  refine lv_iconst (v := 0) hx hb dX12_call_108 (by decide) ?_
                  have pq369 : (V368 0 65).toInt = ((V 0 65)).toInt := congrArg Int32.toInt ((up2_k hV368 (by decide)).trans ((up2_k hV28 (by decide)).trans ((ajV15 0 65 rfl).trans (up2_k hV6 (by decide)))))
                  have pq370 : (V368 0 60).toInt = ((V 0 60)).toInt := congrArg Int32.toInt ((up2_k hV368 (by decide)).trans ((up2_k hV28 (by decide)).trans ((ajV15 0 60 rfl).trans (up2_k hV6 (by decide)))))
                  have pq371 : (V368 0 73).toInt = ((V 0 73)).toInt := congrArg Int32.toInt ((up2_k hV368 (by decide)).trans ((up2_k hV28 (by decide)).trans ((ajV15 0 73 rfl).trans (up2_k hV6 (by decide)))))
                  have pq372 : (V368 0 76).toInt = 0 := (congrArg Int32.toInt ((up2_k hV368 (by decide)).trans (up2_s hV28))).trans (by decide)
                  have pq373 : (V368 0 69).toInt = ((V15 0 69)).toInt := congrArg Int32.toInt ((up2_k hV368 (by decide)).trans (up2_k hV28 (by decide)))
                  have pq374 : (V368 0 95).toInt = ((V15 0 95)).toInt := congrArg Int32.toInt ((up2_k hV368 (by decide)).trans (up2_k hV28 (by decide)))
                  have fz375 : (V 0 95).toInt = 0 := r0.2.2.2.2
                  have r0376 : RT0 V368 := RT0.ag r0 hMV (show agr [(0, 0), (0, 69), (0, 70), (0, 71), (0, 72), (0, 76), (0, 93), (0, 95), (0, 98)] [] V V368 from (agr.up (agr.up (agr.tr (agr.up agr.rf hV6 rfl) ajV15 (by decide) (by decide)) hV28 rfl) hV368 rfl)) ⟨⟨rfl, fun _ => rfl, fun _ => rfl, fun _ => rfl, fun _ => rfl, fun _ => rfl, fun _ => rfl⟩, by decide, by decide, rfl, rfl, fun _ => rfl, fun _ => rfl, fun _ => rfl⟩ (c0k.ag (show agr [(0, 0), (0, 69), (0, 70), (0, 71), (0, 72), (0, 76), (0, 93), (0, 95), (0, 98)] [] V V368 from (agr.up (agr.up (agr.tr (agr.up agr.rf hV6 rfl) ajV15 (by decide) (by decide)) hV28 rfl) hV368 rfl)) rfl) (by (first | exact om_36161e850215 t13 pq374 | omega))
                  have pq377 : (V28 56 (Int32.toNatClampNeg p0)).toInt = ((V 56 (Int32.toNatClampNeg p0))).toInt := congrArg Int32.toInt ((up2_o hV28 (by decide)).trans ((ajV15 56 (Int32.toNatClampNeg p0) rfl).trans (up2_o hV6 (by decide))))
                  have pq378 : (V368 0 71).toInt = ((V15 0 71)).toInt := congrArg Int32.toInt ((up2_k hV368 (by decide)).trans (up2_k hV28 (by decide)))
                  have pq379 : (V368 0 72).toInt = ((V15 0 72)).toInt := congrArg Int32.toInt ((up2_k hV368 (by decide)).trans (up2_k hV28 (by decide)))
                  exact W.iret (v := 0) hx hb hr (fun t ht hW => ⟨⟨0, (V368, L), rfl, ⟨hMV368, agV368, rfl, (show (V368 0 65).toInt ≤ (V368 0 60).toInt from by (first | exact om_842ee80c0797 n1 pq369 pq370 | omega)), (show (V368 0 73).toInt - (V368 0 65).toInt ≤ (V 0 73).toInt - (V 0 65).toInt + 300 from by (first | exact om_763a2df3161d pq369 pq371 | omega)), (show (V368 0 76).toInt - (V368 0 69).toInt - (V368 0 73).toInt ≤ (V 0 76).toInt - (V 0 69).toInt - (V 0 73).toInt + 3000 from by (first | exact om_b7d0129991c5 r4.1 r5.2 t10 pq371 pq372 pq373 | omega)), r0376, (fun h9 => by have h1 := h9.1; have h2 := h9.2.1.1; have h3 := h9.2.1.2.1; have h4 := h9.2.1.2.2; have h5 := h9.2.2.1.1; have h6 := h9.2.2.1.2.1; have h7 := h9.2.2.1.2.2; have h8 := h9.2.2.2.1; have h10 := h9.2.2.2.2; have nw9 : (V 35 (nwh V)).toInt = (V 35 (Int32.toNatClampNeg (V 0 11))).toInt := rfl; exfalso; omega), (fun _ => ⟨by decide, by rw [mV_ag (show agr [(0, 70), (0, 76)] [] V15 V368 from (agr.up (agr.up agr.rf hV28 rfl) hV368 rfl)) (by decide), mb9], (show (V368 0 71).toInt = 0 from by (first | exact om_36161e850215 t14.1 pq378 | omega)), (show (V368 0 72).toInt = 0 from by (first | exact om_36161e850215 t14.2 pq379 | omega))⟩), (fun h9 => RJm.ag (bkq (by rw [show V 0 54 = V368 0 54 from ((show agr [(0, 0), (0, 69), (0, 70), (0, 71), (0, 72), (0, 76), (0, 93), (0, 95), (0, 98)] [] V V368 from (agr.up (agr.up (agr.tr (agr.up agr.rf hV6 rfl) ajV15 (by decide) (by decide)) hV28 rfl) hV368 rfl)) 0 54 rfl).symm]; exact h9)).2.2 (agr.d95 (show agr [(0, 0), (0, 69), (0, 70), (0, 71), (0, 72), (0, 76), (0, 93), (0, 95), (0, 98)] [] V V368 from (agr.up (agr.up (agr.tr (agr.up agr.rf hV6 rfl) ajV15 (by decide) (by decide)) hV28 rfl) hV368 rfl)) (show (V368 0 95).toInt = (V 0 95).toInt from by (first | exact om_844449b06c38 fz t13 pq374 | omega))) (by decide))⟩, by rw [ht]; exact hP, va_K.moved hW.alike hK, hD⟩, hS.F ht⟩) hS.2.2 dX12_call_109
              · skip
                have f380 : ((V 0 54)).toInt = 0 := b_eq rfl (by decide) c347
                exfalso; (first | exact om_0abcda13baee r322.1 f339 f380 | omega)
            · skip
              have f381 : z340.toInt ≠ 0 := b_neq rfl (by decide) c345
              refine lv_iload hx hb dX12_call_75 (lv_at hl 0 rfl) ?_
              refine lv_if_ne (tgt := 110) hx hb dX12_call_77 (by decide) (fun q => absurd rfl q) (fun _ => ?_)
              refine lv_aload_n hx hb dX12_call_80 rfl (lv_at hl 1 rfl) ?_
              refine lv_aload_n hx hb dX12_call_81 rfl (lv_at hl 1 rfl) ?_
              refine va_get (D := D) (ci := 12) (v := .int (V28 0 54)) (C := RX12) (T := TX12) (N := 100) hx hb hg inX12 hown hK hP 0 rfl rfl 54 (by decide) (hg _ w1760) (fun _ h9 => h9) rfl dX12_call_82 ?_
              refine g_top (v := (V 0 54)) ((up2_k hV28 (by decide)).trans ((ajV15 0 54 rfl).trans (up2_k hV6 (by decide)))) ?_
              refine lv_if_ne (tgt := 92) hx hb dX12_call_85 (by decide) (fun c382 => ?_) (fun c382 => ?_)
              · skip
                have f383 : ((V 0 54)).toInt ≠ 0 := b_neq rfl (by decide) c382
                refine lv_aload_n hx hb dX12_call_92 rfl (lv_at hl 1 rfl) ?_
                refine lv_iload_n hx hb dX12_call_93 rfl (lv_at hl 2 rfl) ?_
                refine gA_int (gA_runV (As := [.int p0]) (rest := [.ref (ad 0)]) (ci := 12) (q0 := 0) hx hb hml hown hg hP hD hK hS hA hnw hgk (s_isScope3 l D ks H.size ad kk V28 L p0 hMV28 ) w2223 w2225 w126 w172 w2226 rfl rfl hdV_yX12_isScope ⟨Nat.le_of_ble_eq_true rfl, Nat.le_of_ble_eq_true rfl⟩ rfl hl.1 rfl (Nat.le_of_ble_eq_true rfl) dX12_call_94 ⟨Nat.le_of_ble_eq_true rfl, Nat.le_of_ble_eq_true rfl⟩) hP hD hK hS hA (fun z384 u385 H locs w386 hP hD hK hS => ?_)
                obtain ⟨rgz384, t387⟩ := w386
                have rgz384 : 0 ≤ z384.toInt ∧ z384.toInt ≤ 1 := rgz384
                have t387 : (z384.toInt = 1 ∧ 0 ≤ p0.toInt ∧ p0.toInt < (V28 0 55).toInt ∧ (V28 56 (Int32.toNatClampNeg p0)).toInt = 1) ∨ (z384.toInt = 0 ∧ (p0.toInt < 0 ∨ (V28 0 55).toInt ≤ p0.toInt ∨ (V28 56 (Int32.toNatClampNeg p0)).toInt = 0)) := t387
                refine lv_if_ne (tgt := 104) hx hb dX12_call_97 (by decide) (fun c388 => ?_) (fun c388 => ?_)
                · skip
                  have f389 : z384.toInt ≠ 0 := b_neq rfl (by decide) c388
                  refine lv_iconst (v := 4) hx hb dX12_call_104 (by decide) ?_
                  refine va_put (D := D) (ci := 12) (v := .int 4) (ty := tyX12 70) (C := RX12) (T := TX12) (N := 100) hx hb hg inX12 tyX12 tyX12_ok nmX12 hown hK hP hD hS 0 rfl rfl 70 (by decide) (hg _ w1776) (fun _ h9 => h9) rfl (tyX12_ok 70 (by decide)) rfl rfl (Nat.le_of_ble_eq_true rfl) dX12_call_105 (fun H locs hP hD hS => ?_)
                  obtain ⟨V390, hV390⟩ : ∃ z, z = up2 V28 0 70 4 := ⟨_, rfl⟩
                  have hP : va_P D vwCl (mw ad kk ks.1 V390 L) H := by rw [hV390]; exact hP
                  have hD : va_D A (mw ad kk ks.1 V390 L) := by rw [hV390]; exact hD
                  have hMV390 : rgd bM V390 := hMV28.put hV390 (i_full _)
                  have agV390 : agr [(0, 0), (0, 60), (0, 65), (0, 68), (0, 69), (0, 70), (0, 71), (0, 72), (0, 73), (0, 76), (0, 90), (0, 91), (0, 92), (0, 93), (0, 95), (0, 96), (0, 98)] [59, 61, 62, 63, 64, 66, 67, 74, 75, 77, 78, 79, 80, 94, 97] V V390 := agV28.up hV390 rfl
                  refine lv_iconst (v := 0) hx hb dX12_call_108 (by decide) ?_
                  have pq391 : (V390 0 65).toInt = ((V 0 65)).toInt := congrArg Int32.toInt ((up2_k hV390 (by decide)).trans ((up2_k hV28 (by decide)).trans ((ajV15 0 65 rfl).trans (up2_k hV6 (by decide)))))
                  have pq392 : (V390 0 60).toInt = ((V 0 60)).toInt := congrArg Int32.toInt ((up2_k hV390 (by decide)).trans ((up2_k hV28 (by decide)).trans ((ajV15 0 60 rfl).trans (up2_k hV6 (by decide)))))
                  have pq393 : (V390 0 73).toInt = ((V 0 73)).toInt := congrArg Int32.toInt ((up2_k hV390 (by decide)).trans ((up2_k hV28 (by decide)).trans ((ajV15 0 73 rfl).trans (up2_k hV6 (by decide)))))
                  have pq394 : (V390 0 76).toInt = 0 := (congrArg Int32.toInt ((up2_k hV390 (by decide)).trans (up2_s hV28))).trans (by decide)
                  have pq395 : (V390 0 69).toInt = ((V15 0 69)).toInt := congrArg Int32.toInt ((up2_k hV390 (by decide)).trans (up2_k hV28 (by decide)))
                  have pq396 : (V390 0 95).toInt = ((V15 0 95)).toInt := congrArg Int32.toInt ((up2_k hV390 (by decide)).trans (up2_k hV28 (by decide)))
                  have fz397 : (V 0 95).toInt = 0 := r0.2.2.2.2
                  have r0398 : RT0 V390 := RT0.ag r0 hMV (show agr [(0, 0), (0, 69), (0, 70), (0, 71), (0, 72), (0, 76), (0, 93), (0, 95), (0, 98)] [] V V390 from (agr.up (agr.up (agr.tr (agr.up agr.rf hV6 rfl) ajV15 (by decide) (by decide)) hV28 rfl) hV390 rfl)) ⟨⟨rfl, fun _ => rfl, fun _ => rfl, fun _ => rfl, fun _ => rfl, fun _ => rfl, fun _ => rfl⟩, by decide, by decide, rfl, rfl, fun _ => rfl, fun _ => rfl, fun _ => rfl⟩ (c0k.ag (show agr [(0, 0), (0, 69), (0, 70), (0, 71), (0, 72), (0, 76), (0, 93), (0, 95), (0, 98)] [] V V390 from (agr.up (agr.up (agr.tr (agr.up agr.rf hV6 rfl) ajV15 (by decide) (by decide)) hV28 rfl) hV390 rfl)) rfl) (by (first | exact om_36161e850215 t13 pq396 | omega))
                  have pq399 : (V28 56 (Int32.toNatClampNeg p0)).toInt = ((V 56 (Int32.toNatClampNeg p0))).toInt := congrArg Int32.toInt ((up2_o hV28 (by decide)).trans ((ajV15 56 (Int32.toNatClampNeg p0) rfl).trans (up2_o hV6 (by decide))))
                  have pq400 : (V390 0 71).toInt = ((V15 0 71)).toInt := congrArg Int32.toInt ((up2_k hV390 (by decide)).trans (up2_k hV28 (by decide)))
                  have pq401 : (V390 0 72).toInt = ((V15 0 72)).toInt := congrArg Int32.toInt ((up2_k hV390 (by decide)).trans (up2_k hV28 (by decide)))
                  exact W.iret (v := 0) hx hb hr (fun t ht hW => ⟨⟨0, (V390, L), rfl, ⟨hMV390, agV390, rfl, (show (V390 0 65).toInt ≤ (V390 0 60).toInt from by (first | exact om_842ee80c0797 n1 pq391 pq392 | omega)), (show (V390 0 73).toInt - (V390 0 65).toInt ≤ (V 0 73).toInt - (V 0 65).toInt + 300 from by (first | exact om_763a2df3161d pq391 pq393 | omega)), (show (V390 0 76).toInt - (V390 0 69).toInt - (V390 0 73).toInt ≤ (V 0 76).toInt - (V 0 69).toInt - (V 0 73).toInt + 3000 from by (first | exact om_b7d0129991c5 r4.1 r5.2 t10 pq393 pq394 pq395 | omega)), r0398, (fun h9 => by have h1 := h9.1; have h2 := h9.2.1.1; have h3 := h9.2.1.2.1; have h4 := h9.2.1.2.2; have h5 := h9.2.2.1.1; have h6 := h9.2.2.1.2.1; have h7 := h9.2.2.1.2.2; have h8 := h9.2.2.2.1; have h10 := h9.2.2.2.2; have nw9 : (V 35 (nwh V)).toInt = (V 35 (Int32.toNatClampNeg (V 0 11))).toInt := rfl; exfalso; omega), (fun _ => ⟨by decide, by rw [mV_ag (show agr [(0, 70), (0, 76)] [] V15 V390 from (agr.up (agr.up agr.rf hV28 rfl) hV390 rfl)) (by decide), mb9], (show (V390 0 71).toInt = 0 from by (first | exact om_36161e850215 t14.1 pq400 | omega)), (show (V390 0 72).toInt = 0 from by (first | exact om_36161e850215 t14.2 pq401 | omega))⟩), (fun h9 => RJm.ag (bkq (by rw [show V 0 54 = V390 0 54 from ((show agr [(0, 0), (0, 69), (0, 70), (0, 71), (0, 72), (0, 76), (0, 93), (0, 95), (0, 98)] [] V V390 from (agr.up (agr.up (agr.tr (agr.up agr.rf hV6 rfl) ajV15 (by decide) (by decide)) hV28 rfl) hV390 rfl)) 0 54 rfl).symm]; exact h9)).2.2 (agr.d95 (show agr [(0, 0), (0, 69), (0, 70), (0, 71), (0, 72), (0, 76), (0, 93), (0, 95), (0, 98)] [] V V390 from (agr.up (agr.up (agr.tr (agr.up agr.rf hV6 rfl) ajV15 (by decide) (by decide)) hV28 rfl) hV390 rfl)) (show (V390 0 95).toInt = (V 0 95).toInt from by (first | exact om_844449b06c38 fz t13 pq396 | omega))) (by decide))⟩, by rw [ht]; exact hP, va_K.moved hW.alike hK, hD⟩, hS.F ht⟩) hS.2.2 dX12_call_109
                · skip
                  have f402 : z384.toInt = 0 := b_eq rfl (by decide) c388
                  refine lv_iconst (v := 3) hx hb dX12_call_100 (by decide) ?_
                  refine lv_goto (tgt := 105) hx hb dX12_call_101 (by decide) ?_
                  refine va_put (D := D) (ci := 12) (v := .int 3) (ty := tyX12 70) (C := RX12) (T := TX12) (N := 100) hx hb hg inX12 tyX12 tyX12_ok nmX12 hown hK hP hD hS 0 rfl rfl 70 (by decide) (hg _ w1776) (fun _ h9 => h9) rfl (tyX12_ok 70 (by decide)) rfl rfl (Nat.le_of_ble_eq_true rfl) dX12_call_105 (fun H locs hP hD hS => ?_)
                  obtain ⟨V403, hV403⟩ : ∃ z, z = up2 V28 0 70 3 := ⟨_, rfl⟩
                  have hP : va_P D vwCl (mw ad kk ks.1 V403 L) H := by rw [hV403]; exact hP
                  have hD : va_D A (mw ad kk ks.1 V403 L) := by rw [hV403]; exact hD
                  have hMV403 : rgd bM V403 := hMV28.put hV403 (i_full _)
                  have agV403 : agr [(0, 0), (0, 60), (0, 65), (0, 68), (0, 69), (0, 70), (0, 71), (0, 72), (0, 73), (0, 76), (0, 90), (0, 91), (0, 92), (0, 93), (0, 95), (0, 96), (0, 98)] [59, 61, 62, 63, 64, 66, 67, 74, 75, 77, 78, 79, 80, 94, 97] V V403 := agV28.up hV403 rfl
                  refine lv_iconst (v := 0) hx hb dX12_call_108 (by decide) ?_
                  have pq404 : (V403 0 65).toInt = ((V 0 65)).toInt := congrArg Int32.toInt ((up2_k hV403 (by decide)).trans ((up2_k hV28 (by decide)).trans ((ajV15 0 65 rfl).trans (up2_k hV6 (by decide)))))
                  have pq405 : (V403 0 60).toInt = ((V 0 60)).toInt := congrArg Int32.toInt ((up2_k hV403 (by decide)).trans ((up2_k hV28 (by decide)).trans ((ajV15 0 60 rfl).trans (up2_k hV6 (by decide)))))
                  have pq406 : (V403 0 73).toInt = ((V 0 73)).toInt := congrArg Int32.toInt ((up2_k hV403 (by decide)).trans ((up2_k hV28 (by decide)).trans ((ajV15 0 73 rfl).trans (up2_k hV6 (by decide)))))
                  have pq407 : (V403 0 76).toInt = 0 := (congrArg Int32.toInt ((up2_k hV403 (by decide)).trans (up2_s hV28))).trans (by decide)
                  have pq408 : (V403 0 69).toInt = ((V15 0 69)).toInt := congrArg Int32.toInt ((up2_k hV403 (by decide)).trans (up2_k hV28 (by decide)))
                  have pq409 : (V403 0 95).toInt = ((V15 0 95)).toInt := congrArg Int32.toInt ((up2_k hV403 (by decide)).trans (up2_k hV28 (by decide)))
                  have fz410 : (V 0 95).toInt = 0 := r0.2.2.2.2
                  have r0411 : RT0 V403 := RT0.ag r0 hMV (show agr [(0, 0), (0, 69), (0, 70), (0, 71), (0, 72), (0, 76), (0, 93), (0, 95), (0, 98)] [] V V403 from (agr.up (agr.up (agr.tr (agr.up agr.rf hV6 rfl) ajV15 (by decide) (by decide)) hV28 rfl) hV403 rfl)) ⟨⟨rfl, fun _ => rfl, fun _ => rfl, fun _ => rfl, fun _ => rfl, fun _ => rfl, fun _ => rfl⟩, by decide, by decide, rfl, rfl, fun _ => rfl, fun _ => rfl, fun _ => rfl⟩ (c0k.ag (show agr [(0, 0), (0, 69), (0, 70), (0, 71), (0, 72), (0, 76), (0, 93), (0, 95), (0, 98)] [] V V403 from (agr.up (agr.up (agr.tr (agr.up agr.rf hV6 rfl) ajV15 (by decide) (by decide)) hV28 rfl) hV403 rfl)) rfl) (by (first | exact om_36161e850215 t13 pq409 | omega))
                  have pq412 : (V28 56 (Int32.toNatClampNeg p0)).toInt = ((V 56 (Int32.toNatClampNeg p0))).toInt := congrArg Int32.toInt ((up2_o hV28 (by decide)).trans ((ajV15 56 (Int32.toNatClampNeg p0) rfl).trans (up2_o hV6 (by decide))))
                  have pq413 : (V403 0 71).toInt = ((V15 0 71)).toInt := congrArg Int32.toInt ((up2_k hV403 (by decide)).trans (up2_k hV28 (by decide)))
                  have pq414 : (V403 0 72).toInt = ((V15 0 72)).toInt := congrArg Int32.toInt ((up2_k hV403 (by decide)).trans (up2_k hV28 (by decide)))
                  exact W.iret (v := 0) hx hb hr (fun t ht hW => ⟨⟨0, (V403, L), rfl, ⟨hMV403, agV403, rfl, (show (V403 0 65).toInt ≤ (V403 0 60).toInt from by (first | exact om_842ee80c0797 n1 pq404 pq405 | omega)), (show (V403 0 73).toInt - (V403 0 65).toInt ≤ (V 0 73).toInt - (V 0 65).toInt + 300 from by (first | exact om_763a2df3161d pq404 pq406 | omega)), (show (V403 0 76).toInt - (V403 0 69).toInt - (V403 0 73).toInt ≤ (V 0 76).toInt - (V 0 69).toInt - (V 0 73).toInt + 3000 from by (first | exact om_b7d0129991c5 r4.1 r5.2 t10 pq406 pq407 pq408 | omega)), r0411, (fun h9 => by have h1 := h9.1; have h2 := h9.2.1.1; have h3 := h9.2.1.2.1; have h4 := h9.2.1.2.2; have h5 := h9.2.2.1.1; have h6 := h9.2.2.1.2.1; have h7 := h9.2.2.1.2.2; have h8 := h9.2.2.2.1; have h10 := h9.2.2.2.2; have nw9 : (V 35 (nwh V)).toInt = (V 35 (Int32.toNatClampNeg (V 0 11))).toInt := rfl; exfalso; omega), (fun _ => ⟨by decide, by rw [mV_ag (show agr [(0, 70), (0, 76)] [] V15 V403 from (agr.up (agr.up agr.rf hV28 rfl) hV403 rfl)) (by decide), mb9], (show (V403 0 71).toInt = 0 from by (first | exact om_36161e850215 t14.1 pq413 | omega)), (show (V403 0 72).toInt = 0 from by (first | exact om_36161e850215 t14.2 pq414 | omega))⟩), (fun h9 => RJm.ag (bkq (by rw [show V 0 54 = V403 0 54 from ((show agr [(0, 0), (0, 69), (0, 70), (0, 71), (0, 72), (0, 76), (0, 93), (0, 95), (0, 98)] [] V V403 from (agr.up (agr.up (agr.tr (agr.up agr.rf hV6 rfl) ajV15 (by decide) (by decide)) hV28 rfl) hV403 rfl)) 0 54 rfl).symm]; exact h9)).2.2 (agr.d95 (show agr [(0, 0), (0, 69), (0, 70), (0, 71), (0, 72), (0, 76), (0, 93), (0, 95), (0, 98)] [] V V403 from (agr.up (agr.up (agr.tr (agr.up agr.rf hV6 rfl) ajV15 (by decide) (by decide)) hV28 rfl) hV403 rfl)) (show (V403 0 95).toInt = (V 0 95).toInt from by (first | exact om_844449b06c38 fz t13 pq409 | omega))) (by decide))⟩, by rw [ht]; exact hP, va_K.moved hW.alike hK, hD⟩, hS.F ht⟩) hS.2.2 dX12_call_109
              · skip
                have f415 : ((V 0 54)).toInt = 0 := b_eq rfl (by decide) c382
                exfalso; (first | exact om_0abcda13baee r322.1 f339 f415 | omega)
        · skip
          have f416 : 0 ≤ p2.toInt := b_nlt rfl (by decide) c320
          refine lv_iload_n hx hb dX12_call_40 rfl (lv_at hl 3 rfl) ?_
          refine lv_aload_n hx hb dX12_call_41 rfl (lv_at hl 0 rfl) ?_
          refine va_get (D := D) (ci := 12) (v := .ref (ad 35)) (C := RX12) (T := TX12) (N := 100) hx hb hg inX12 hown hK hP 0 rfl rfl 35 (by decide) (hg _ w1741) (fun _ h9 => h9) rfl dX12_call_42 ?_
          refine lv_aload_n hx hb dX12_call_45 rfl (lv_at hl 0 rfl) ?_
          refine va_get (D := D) (ci := 12) (v := .int (V28 0 11)) (C := RX12) (T := TX12) (N := 100) hx hb hg inX12 hown hK hP 0 rfl rfl 11 (by decide) (hg _ w1717) (fun _ h9 => h9) rfl dX12_call_46 ?_
          refine g_top (v := (V 0 11)) ((up2_k hV28 (by decide)).trans ((ajV15 0 11 rfl).trans (up2_k hV6 (by decide)))) ?_
          have r417 : 0 ≤ ((V 0 11)).toInt ∧ ((V 0 11)).toInt ≤ 1 := hMV 0 11
          refine va_iald (D := D) (i := (V 0 11)) hx hb hK hP 28 27 rfl rfl (i_in (a := ((V 0 11)).toInt) rfl (by (first | exact om_8367a84723c7 r417.1 r417.2 | omega))) dX12_call_49 ?_
          refine g_top (v := (V 35 (Int32.toNatClampNeg (V 0 11)))) ((up2_o hV28 (by decide)).trans ((ajV15 35 (Int32.toNatClampNeg (V 0 11)) rfl).trans (up2_o hV6 (by decide)))) ?_
          have r418 : 0 ≤ ((V 35 (Int32.toNatClampNeg (V 0 11)))).toInt ∧ ((V 35 (Int32.toNatClampNeg (V 0 11)))).toInt ≤ 20 := hMV 35 (Int32.toNatClampNeg (V 0 11))
          refine lv_icmp_ge (tgt := 57) hx hb dX12_call_50 (by decide) (fun c419 => ?_) (fun c419 => ?_)
          · skip
            have f420 : ((V 35 (Int32.toNatClampNeg (V 0 11)))).toInt ≤ p2.toInt := b_le rfl rfl c419
            refine lv_iconst (v := 0) hx hb dX12_call_57 (by decide) ?_
            refine lv_istore (lv' := [(5, .int 0), (0, .ref (ad 0)), (1, .int p0), (2, .int p1), (3, .int p2), (4, .int p3)]) hx hb dX12_call_58 hl (by decide) rfl (fun ls hl => ?_)
            refine lv_aload_n hx hb dX12_call_60 rfl (lv_at hl 1 rfl) ?_
            refine va_get (D := D) (ci := 12) (v := .int (V28 0 54)) (C := RX12) (T := TX12) (N := 100) hx hb hg inX12 hown hK hP 0 rfl rfl 54 (by decide) (hg _ w1760) (fun _ h9 => h9) rfl dX12_call_61 ?_
            refine g_top (v := (V 0 54)) ((up2_k hV28 (by decide)).trans ((ajV15 0 54 rfl).trans (up2_k hV6 (by decide)))) ?_
            have r421 : 0 ≤ ((V 0 54)).toInt ∧ ((V 0 54)).toInt ≤ 1 := hMV 0 54
            refine lv_if_eq (tgt := 80) hx hb dX12_call_64 (by decide) (fun c422 => ?_) (fun c422 => ?_)
            · skip
              have f423 : ((V 0 54)).toInt = 0 := b_eq rfl (by decide) c422
              refine lv_aload_n hx hb dX12_call_80 rfl (lv_at hl 1 rfl) ?_
              refine lv_aload_n hx hb dX12_call_81 rfl (lv_at hl 1 rfl) ?_
              refine va_get (D := D) (ci := 12) (v := .int (V28 0 54)) (C := RX12) (T := TX12) (N := 100) hx hb hg inX12 hown hK hP 0 rfl rfl 54 (by decide) (hg _ w1760) (fun _ h9 => h9) rfl dX12_call_82 ?_
              refine g_top (v := (V 0 54)) ((up2_k hV28 (by decide)).trans ((ajV15 0 54 rfl).trans (up2_k hV6 (by decide)))) ?_
              refine lv_if_ne (tgt := 92) hx hb dX12_call_85 (by decide) (fun c424 => ?_) (fun c424 => ?_)
              · skip
                have f425 : ((V 0 54)).toInt ≠ 0 := b_neq rfl (by decide) c424
                exfalso; (first | exact om_fb320d7600b7 r421.1 f423 f425 | omega)
              · skip
                have f426 : ((V 0 54)).toInt = 0 := b_eq rfl (by decide) c424
                refine lv_iconst (v := 4) hx hb dX12_call_88 (by decide) ?_
                refine lv_goto (tgt := 105) hx hb dX12_call_89 (by decide) ?_
                refine va_put (D := D) (ci := 12) (v := .int 4) (ty := tyX12 70) (C := RX12) (T := TX12) (N := 100) hx hb hg inX12 tyX12 tyX12_ok nmX12 hown hK hP hD hS 0 rfl rfl 70 (by decide) (hg _ w1776) (fun _ h9 => h9) rfl (tyX12_ok 70 (by decide)) rfl rfl (Nat.le_of_ble_eq_true rfl) dX12_call_105 (fun H locs hP hD hS => ?_)
                obtain ⟨V427, hV427⟩ : ∃ z, z = up2 V28 0 70 4 := ⟨_, rfl⟩
                have hP : va_P D vwCl (mw ad kk ks.1 V427 L) H := by rw [hV427]; exact hP
                have hD : va_D A (mw ad kk ks.1 V427 L) := by rw [hV427]; exact hD
                have hMV427 : rgd bM V427 := hMV28.put hV427 (i_full _)
                have agV427 : agr [(0, 0), (0, 60), (0, 65), (0, 68), (0, 69), (0, 70), (0, 71), (0, 72), (0, 73), (0, 76), (0, 90), (0, 91), (0, 92), (0, 93), (0, 95), (0, 96), (0, 98)] [59, 61, 62, 63, 64, 66, 67, 74, 75, 77, 78, 79, 80, 94, 97] V V427 := agV28.up hV427 rfl
                refine lv_iconst (v := 0) hx hb dX12_call_108 (by decide) ?_
                have pq428 : (V427 0 65).toInt = ((V 0 65)).toInt := congrArg Int32.toInt ((up2_k hV427 (by decide)).trans ((up2_k hV28 (by decide)).trans ((ajV15 0 65 rfl).trans (up2_k hV6 (by decide)))))
                have pq429 : (V427 0 60).toInt = ((V 0 60)).toInt := congrArg Int32.toInt ((up2_k hV427 (by decide)).trans ((up2_k hV28 (by decide)).trans ((ajV15 0 60 rfl).trans (up2_k hV6 (by decide)))))
                have pq430 : (V427 0 73).toInt = ((V 0 73)).toInt := congrArg Int32.toInt ((up2_k hV427 (by decide)).trans ((up2_k hV28 (by decide)).trans ((ajV15 0 73 rfl).trans (up2_k hV6 (by decide)))))
                have pq431 : (V427 0 76).toInt = 0 := (congrArg Int32.toInt ((up2_k hV427 (by decide)).trans (up2_s hV28))).trans (by decide)
                have pq432 : (V427 0 69).toInt = ((V15 0 69)).toInt := congrArg Int32.toInt ((up2_k hV427 (by decide)).trans (up2_k hV28 (by decide)))
                have pq433 : (V427 0 95).toInt = ((V15 0 95)).toInt := congrArg Int32.toInt ((up2_k hV427 (by decide)).trans (up2_k hV28 (by decide)))
                have fz434 : (V 0 95).toInt = 0 := r0.2.2.2.2
                have r0435 : RT0 V427 := RT0.ag r0 hMV (show agr [(0, 0), (0, 69), (0, 70), (0, 71), (0, 72), (0, 76), (0, 93), (0, 95), (0, 98)] [] V V427 from (agr.up (agr.up (agr.tr (agr.up agr.rf hV6 rfl) ajV15 (by decide) (by decide)) hV28 rfl) hV427 rfl)) ⟨⟨rfl, fun _ => rfl, fun _ => rfl, fun _ => rfl, fun _ => rfl, fun _ => rfl, fun _ => rfl⟩, by decide, by decide, rfl, rfl, fun _ => rfl, fun _ => rfl, fun _ => rfl⟩ (c0k.ag (show agr [(0, 0), (0, 69), (0, 70), (0, 71), (0, 72), (0, 76), (0, 93), (0, 95), (0, 98)] [] V V427 from (agr.up (agr.up (agr.tr (agr.up agr.rf hV6 rfl) ajV15 (by decide) (by decide)) hV28 rfl) hV427 rfl)) rfl) (by (first | exact om_36161e850215 t13 pq433 | omega))
                have pq436 : (V427 0 71).toInt = ((V15 0 71)).toInt := congrArg Int32.toInt ((up2_k hV427 (by decide)).trans (up2_k hV28 (by decide)))
                have pq437 : (V427 0 72).toInt = ((V15 0 72)).toInt := congrArg Int32.toInt ((up2_k hV427 (by decide)).trans (up2_k hV28 (by decide)))
                exact W.iret (v := 0) hx hb hr (fun t ht hW => ⟨⟨0, (V427, L), rfl, ⟨hMV427, agV427, rfl, (show (V427 0 65).toInt ≤ (V427 0 60).toInt from by (first | exact om_842ee80c0797 n1 pq428 pq429 | omega)), (show (V427 0 73).toInt - (V427 0 65).toInt ≤ (V 0 73).toInt - (V 0 65).toInt + 300 from by (first | exact om_763a2df3161d pq428 pq430 | omega)), (show (V427 0 76).toInt - (V427 0 69).toInt - (V427 0 73).toInt ≤ (V 0 76).toInt - (V 0 69).toInt - (V 0 73).toInt + 3000 from by (first | exact om_b7d0129991c5 r4.1 r5.2 t10 pq430 pq431 pq432 | omega)), r0435, (fun h9 => by have h1 := h9.1; have h2 := h9.2.1.1; have h3 := h9.2.1.2.1; have h4 := h9.2.1.2.2; have h5 := h9.2.2.1.1; have h6 := h9.2.2.1.2.1; have h7 := h9.2.2.1.2.2; have h8 := h9.2.2.2.1; have h10 := h9.2.2.2.2; have nw9 : (V 35 (nwh V)).toInt = (V 35 (Int32.toNatClampNeg (V 0 11))).toInt := rfl; exfalso; omega), (fun _ => ⟨by decide, by rw [mV_ag (show agr [(0, 70), (0, 76)] [] V15 V427 from (agr.up (agr.up agr.rf hV28 rfl) hV427 rfl)) (by decide), mb9], (show (V427 0 71).toInt = 0 from by (first | exact om_36161e850215 t14.1 pq436 | omega)), (show (V427 0 72).toInt = 0 from by (first | exact om_36161e850215 t14.2 pq437 | omega))⟩), (fun h9 => RJm.ag (bkq (by rw [show V 0 54 = V427 0 54 from ((show agr [(0, 0), (0, 69), (0, 70), (0, 71), (0, 72), (0, 76), (0, 93), (0, 95), (0, 98)] [] V V427 from (agr.up (agr.up (agr.tr (agr.up agr.rf hV6 rfl) ajV15 (by decide) (by decide)) hV28 rfl) hV427 rfl)) 0 54 rfl).symm]; exact h9)).2.2 (agr.d95 (show agr [(0, 0), (0, 69), (0, 70), (0, 71), (0, 72), (0, 76), (0, 93), (0, 95), (0, 98)] [] V V427 from (agr.up (agr.up (agr.tr (agr.up agr.rf hV6 rfl) ajV15 (by decide) (by decide)) hV28 rfl) hV427 rfl)) (show (V427 0 95).toInt = (V 0 95).toInt from by (first | exact om_844449b06c38 fz t13 pq433 | omega))) (by decide))⟩, by rw [ht]; exact hP, va_K.moved hW.alike hK, hD⟩, hS.F ht⟩) hS.2.2 dX12_call_109
            · skip
              have f438 : ((V 0 54)).toInt ≠ 0 := b_neq rfl (by decide) c422
              refine lv_aload_n hx hb dX12_call_67 rfl (lv_at hl 1 rfl) ?_
              refine lv_iload_n hx hb dX12_call_68 rfl (lv_at hl 2 rfl) ?_
              refine gA_int (gA_runV (As := [.int p0]) (rest := []) (ci := 12) (q0 := 0) hx hb hml hown hg hP hD hK hS hA hnw hgk (s_isScope3 l D ks H.size ad kk V28 L p0 hMV28 ) w2223 w2225 w126 w172 w2226 rfl rfl hdV_yX12_isScope ⟨Nat.le_of_ble_eq_true rfl, Nat.le_of_ble_eq_true rfl⟩ rfl hl.1 rfl (Nat.le_of_ble_eq_true rfl) dX12_call_69 ⟨Nat.le_of_ble_eq_true rfl, Nat.le_of_ble_eq_true rfl⟩) hP hD hK hS hA (fun z439 u440 H locs w441 hP hD hK hS => ?_)
              obtain ⟨rgz439, t442⟩ := w441
              have rgz439 : 0 ≤ z439.toInt ∧ z439.toInt ≤ 1 := rgz439
              have t442 : (z439.toInt = 1 ∧ 0 ≤ p0.toInt ∧ p0.toInt < (V28 0 55).toInt ∧ (V28 56 (Int32.toNatClampNeg p0)).toInt = 1) ∨ (z439.toInt = 0 ∧ (p0.toInt < 0 ∨ (V28 0 55).toInt ≤ p0.toInt ∨ (V28 56 (Int32.toNatClampNeg p0)).toInt = 0)) := t442
              have pq443 : (V28 0 55).toInt = ((V 0 55)).toInt := congrArg Int32.toInt ((up2_k hV28 (by decide)).trans ((ajV15 0 55 rfl).trans (up2_k hV6 (by decide))))
              refine lv_if_eq (tgt := 80) hx hb dX12_call_72 (by decide) (fun c444 => ?_) (fun c444 => ?_)
              · skip
                have f445 : z439.toInt = 0 := b_eq rfl (by decide) c444
                refine lv_aload_n hx hb dX12_call_80 rfl (lv_at hl 1 rfl) ?_
                refine lv_aload_n hx hb dX12_call_81 rfl (lv_at hl 1 rfl) ?_
                refine va_get (D := D) (ci := 12) (v := .int (V28 0 54)) (C := RX12) (T := TX12) (N := 100) hx hb hg inX12 hown hK hP 0 rfl rfl 54 (by decide) (hg _ w1760) (fun _ h9 => h9) rfl dX12_call_82 ?_
                refine g_top (v := (V 0 54)) ((up2_k hV28 (by decide)).trans ((ajV15 0 54 rfl).trans (up2_k hV6 (by decide)))) ?_
                refine lv_if_ne (tgt := 92) hx hb dX12_call_85 (by decide) (fun c446 => ?_) (fun c446 => ?_)
                · skip
                  have f447 : ((V 0 54)).toInt ≠ 0 := b_neq rfl (by decide) c446
                  refine lv_aload_n hx hb dX12_call_92 rfl (lv_at hl 1 rfl) ?_
                  refine lv_iload_n hx hb dX12_call_93 rfl (lv_at hl 2 rfl) ?_
                  refine gA_int (gA_runV (As := [.int p0]) (rest := [.ref (ad 0)]) (ci := 12) (q0 := 0) hx hb hml hown hg hP hD hK hS hA hnw hgk (s_isScope3 l D ks H.size ad kk V28 L p0 hMV28 ) w2223 w2225 w126 w172 w2226 rfl rfl hdV_yX12_isScope ⟨Nat.le_of_ble_eq_true rfl, Nat.le_of_ble_eq_true rfl⟩ rfl hl.1 rfl (Nat.le_of_ble_eq_true rfl) dX12_call_94 ⟨Nat.le_of_ble_eq_true rfl, Nat.le_of_ble_eq_true rfl⟩) hP hD hK hS hA (fun z448 u449 H locs w450 hP hD hK hS => ?_)
                  obtain ⟨rgz448, t451⟩ := w450
                  have rgz448 : 0 ≤ z448.toInt ∧ z448.toInt ≤ 1 := rgz448
                  have t451 : (z448.toInt = 1 ∧ 0 ≤ p0.toInt ∧ p0.toInt < (V28 0 55).toInt ∧ (V28 56 (Int32.toNatClampNeg p0)).toInt = 1) ∨ (z448.toInt = 0 ∧ (p0.toInt < 0 ∨ (V28 0 55).toInt ≤ p0.toInt ∨ (V28 56 (Int32.toNatClampNeg p0)).toInt = 0)) := t451
                  refine lv_if_ne (tgt := 104) hx hb dX12_call_97 (by decide) (fun c452 => ?_) (fun c452 => ?_)
                  · skip
                    have f453 : z448.toInt ≠ 0 := b_neq rfl (by decide) c452
                    refine lv_iconst (v := 4) hx hb dX12_call_104 (by decide) ?_
                    refine va_put (D := D) (ci := 12) (v := .int 4) (ty := tyX12 70) (C := RX12) (T := TX12) (N := 100) hx hb hg inX12 tyX12 tyX12_ok nmX12 hown hK hP hD hS 0 rfl rfl 70 (by decide) (hg _ w1776) (fun _ h9 => h9) rfl (tyX12_ok 70 (by decide)) rfl rfl (Nat.le_of_ble_eq_true rfl) dX12_call_105 (fun H locs hP hD hS => ?_)
                    obtain ⟨V454, hV454⟩ : ∃ z, z = up2 V28 0 70 4 := ⟨_, rfl⟩
                    have hP : va_P D vwCl (mw ad kk ks.1 V454 L) H := by rw [hV454]; exact hP
                    have hD : va_D A (mw ad kk ks.1 V454 L) := by rw [hV454]; exact hD
                    have hMV454 : rgd bM V454 := hMV28.put hV454 (i_full _)
                    have agV454 : agr [(0, 0), (0, 60), (0, 65), (0, 68), (0, 69), (0, 70), (0, 71), (0, 72), (0, 73), (0, 76), (0, 90), (0, 91), (0, 92), (0, 93), (0, 95), (0, 96), (0, 98)] [59, 61, 62, 63, 64, 66, 67, 74, 75, 77, 78, 79, 80, 94, 97] V V454 := agV28.up hV454 rfl
                    refine lv_iconst (v := 0) hx hb dX12_call_108 (by decide) ?_
                    have pq455 : (V454 0 65).toInt = ((V 0 65)).toInt := congrArg Int32.toInt ((up2_k hV454 (by decide)).trans ((up2_k hV28 (by decide)).trans ((ajV15 0 65 rfl).trans (up2_k hV6 (by decide)))))
                    have pq456 : (V454 0 60).toInt = ((V 0 60)).toInt := congrArg Int32.toInt ((up2_k hV454 (by decide)).trans ((up2_k hV28 (by decide)).trans ((ajV15 0 60 rfl).trans (up2_k hV6 (by decide)))))
                    have pq457 : (V454 0 73).toInt = ((V 0 73)).toInt := congrArg Int32.toInt ((up2_k hV454 (by decide)).trans ((up2_k hV28 (by decide)).trans ((ajV15 0 73 rfl).trans (up2_k hV6 (by decide)))))
                    have pq458 : (V454 0 76).toInt = 0 := (congrArg Int32.toInt ((up2_k hV454 (by decide)).trans (up2_s hV28))).trans (by decide)
                    have pq459 : (V454 0 69).toInt = ((V15 0 69)).toInt := congrArg Int32.toInt ((up2_k hV454 (by decide)).trans (up2_k hV28 (by decide)))
                    have pq460 : (V454 0 95).toInt = ((V15 0 95)).toInt := congrArg Int32.toInt ((up2_k hV454 (by decide)).trans (up2_k hV28 (by decide)))
                    have fz461 : (V 0 95).toInt = 0 := r0.2.2.2.2
                    have r0462 : RT0 V454 := RT0.ag r0 hMV (show agr [(0, 0), (0, 69), (0, 70), (0, 71), (0, 72), (0, 76), (0, 93), (0, 95), (0, 98)] [] V V454 from (agr.up (agr.up (agr.tr (agr.up agr.rf hV6 rfl) ajV15 (by decide) (by decide)) hV28 rfl) hV454 rfl)) ⟨⟨rfl, fun _ => rfl, fun _ => rfl, fun _ => rfl, fun _ => rfl, fun _ => rfl, fun _ => rfl⟩, by decide, by decide, rfl, rfl, fun _ => rfl, fun _ => rfl, fun _ => rfl⟩ (c0k.ag (show agr [(0, 0), (0, 69), (0, 70), (0, 71), (0, 72), (0, 76), (0, 93), (0, 95), (0, 98)] [] V V454 from (agr.up (agr.up (agr.tr (agr.up agr.rf hV6 rfl) ajV15 (by decide) (by decide)) hV28 rfl) hV454 rfl)) rfl) (by (first | exact om_36161e850215 t13 pq460 | omega))
                    have pq463 : (V28 56 (Int32.toNatClampNeg p0)).toInt = ((V 56 (Int32.toNatClampNeg p0))).toInt := congrArg Int32.toInt ((up2_o hV28 (by decide)).trans ((ajV15 56 (Int32.toNatClampNeg p0) rfl).trans (up2_o hV6 (by decide))))
                    have pq464 : (V454 0 71).toInt = ((V15 0 71)).toInt := congrArg Int32.toInt ((up2_k hV454 (by decide)).trans (up2_k hV28 (by decide)))
                    have pq465 : (V454 0 72).toInt = ((V15 0 72)).toInt := congrArg Int32.toInt ((up2_k hV454 (by decide)).trans (up2_k hV28 (by decide)))
                    exact W.iret (v := 0) hx hb hr (fun t ht hW => ⟨⟨0, (V454, L), rfl, ⟨hMV454, agV454, rfl, (show (V454 0 65).toInt ≤ (V454 0 60).toInt from by (first | exact om_842ee80c0797 n1 pq455 pq456 | omega)), (show (V454 0 73).toInt - (V454 0 65).toInt ≤ (V 0 73).toInt - (V 0 65).toInt + 300 from by (first | exact om_763a2df3161d pq455 pq457 | omega)), (show (V454 0 76).toInt - (V454 0 69).toInt - (V454 0 73).toInt ≤ (V 0 76).toInt - (V 0 69).toInt - (V 0 73).toInt + 3000 from by (first | exact om_b7d0129991c5 r4.1 r5.2 t10 pq457 pq458 pq459 | omega)), r0462, (fun h9 => by have h1 := h9.1; have h2 := h9.2.1.1; have h3 := h9.2.1.2.1; have h4 := h9.2.1.2.2; have h5 := h9.2.2.1.1; have h6 := h9.2.2.1.2.1; have h7 := h9.2.2.1.2.2; have h8 := h9.2.2.2.1; have h10 := h9.2.2.2.2; have nw9 : (V 35 (nwh V)).toInt = (V 35 (Int32.toNatClampNeg (V 0 11))).toInt := rfl; exfalso; omega), (fun _ => ⟨by decide, by rw [mV_ag (show agr [(0, 70), (0, 76)] [] V15 V454 from (agr.up (agr.up agr.rf hV28 rfl) hV454 rfl)) (by decide), mb9], (show (V454 0 71).toInt = 0 from by (first | exact om_36161e850215 t14.1 pq464 | omega)), (show (V454 0 72).toInt = 0 from by (first | exact om_36161e850215 t14.2 pq465 | omega))⟩), (fun h9 => RJm.ag (bkq (by rw [show V 0 54 = V454 0 54 from ((show agr [(0, 0), (0, 69), (0, 70), (0, 71), (0, 72), (0, 76), (0, 93), (0, 95), (0, 98)] [] V V454 from (agr.up (agr.up (agr.tr (agr.up agr.rf hV6 rfl) ajV15 (by decide) (by decide)) hV28 rfl) hV454 rfl)) 0 54 rfl).symm]; exact h9)).2.2 (agr.d95 (show agr [(0, 0), (0, 69), (0, 70), (0, 71), (0, 72), (0, 76), (0, 93), (0, 95), (0, 98)] [] V V454 from (agr.up (agr.up (agr.tr (agr.up agr.rf hV6 rfl) ajV15 (by decide) (by decide)) hV28 rfl) hV454 rfl)) (show (V454 0 95).toInt = (V 0 95).toInt from by (first | exact om_844449b06c38 fz t13 pq460 | omega))) (by decide))⟩, by rw [ht]; exact hP, va_K.moved hW.alike hK, hD⟩, hS.F ht⟩) hS.2.2 dX12_call_109
                  · skip
                    have f466 : z448.toInt = 0 := b_eq rfl (by decide) c452
                    refine lv_iconst (v := 3) hx hb dX12_call_100 (by decide) ?_
                    refine lv_goto (tgt := 105) hx hb dX12_call_101 (by decide) ?_
                    refine va_put (D := D) (ci := 12) (v := .int 3) (ty := tyX12 70) (C := RX12) (T := TX12) (N := 100) hx hb hg inX12 tyX12 tyX12_ok nmX12 hown hK hP hD hS 0 rfl rfl 70 (by decide) (hg _ w1776) (fun _ h9 => h9) rfl (tyX12_ok 70 (by decide)) rfl rfl (Nat.le_of_ble_eq_true rfl) dX12_call_105 (fun H locs hP hD hS => ?_)
                    obtain ⟨V467, hV467⟩ : ∃ z, z = up2 V28 0 70 3 := ⟨_, rfl⟩
                    have hP : va_P D vwCl (mw ad kk ks.1 V467 L) H := by rw [hV467]; exact hP
                    have hD : va_D A (mw ad kk ks.1 V467 L) := by rw [hV467]; exact hD
                    have hMV467 : rgd bM V467 := hMV28.put hV467 (i_full _)
                    have agV467 : agr [(0, 0), (0, 60), (0, 65), (0, 68), (0, 69), (0, 70), (0, 71), (0, 72), (0, 73), (0, 76), (0, 90), (0, 91), (0, 92), (0, 93), (0, 95), (0, 96), (0, 98)] [59, 61, 62, 63, 64, 66, 67, 74, 75, 77, 78, 79, 80, 94, 97] V V467 := agV28.up hV467 rfl
                    refine lv_iconst (v := 0) hx hb dX12_call_108 (by decide) ?_
                    have pq468 : (V467 0 65).toInt = ((V 0 65)).toInt := congrArg Int32.toInt ((up2_k hV467 (by decide)).trans ((up2_k hV28 (by decide)).trans ((ajV15 0 65 rfl).trans (up2_k hV6 (by decide)))))
                    have pq469 : (V467 0 60).toInt = ((V 0 60)).toInt := congrArg Int32.toInt ((up2_k hV467 (by decide)).trans ((up2_k hV28 (by decide)).trans ((ajV15 0 60 rfl).trans (up2_k hV6 (by decide)))))
                    have pq470 : (V467 0 73).toInt = ((V 0 73)).toInt := congrArg Int32.toInt ((up2_k hV467 (by decide)).trans ((up2_k hV28 (by decide)).trans ((ajV15 0 73 rfl).trans (up2_k hV6 (by decide)))))
                    have pq471 : (V467 0 76).toInt = 0 := (congrArg Int32.toInt ((up2_k hV467 (by decide)).trans (up2_s hV28))).trans (by decide)
                    have pq472 : (V467 0 69).toInt = ((V15 0 69)).toInt := congrArg Int32.toInt ((up2_k hV467 (by decide)).trans (up2_k hV28 (by decide)))
                    have pq473 : (V467 0 95).toInt = ((V15 0 95)).toInt := congrArg Int32.toInt ((up2_k hV467 (by decide)).trans (up2_k hV28 (by decide)))
                    have fz474 : (V 0 95).toInt = 0 := r0.2.2.2.2
                    have r0475 : RT0 V467 := RT0.ag r0 hMV (show agr [(0, 0), (0, 69), (0, 70), (0, 71), (0, 72), (0, 76), (0, 93), (0, 95), (0, 98)] [] V V467 from (agr.up (agr.up (agr.tr (agr.up agr.rf hV6 rfl) ajV15 (by decide) (by decide)) hV28 rfl) hV467 rfl)) ⟨⟨rfl, fun _ => rfl, fun _ => rfl, fun _ => rfl, fun _ => rfl, fun _ => rfl, fun _ => rfl⟩, by decide, by decide, rfl, rfl, fun _ => rfl, fun _ => rfl, fun _ => rfl⟩ (c0k.ag (show agr [(0, 0), (0, 69), (0, 70), (0, 71), (0, 72), (0, 76), (0, 93), (0, 95), (0, 98)] [] V V467 from (agr.up (agr.up (agr.tr (agr.up agr.rf hV6 rfl) ajV15 (by decide) (by decide)) hV28 rfl) hV467 rfl)) rfl) (by (first | exact om_36161e850215 t13 pq473 | omega))
                    have pq476 : (V28 56 (Int32.toNatClampNeg p0)).toInt = ((V 56 (Int32.toNatClampNeg p0))).toInt := congrArg Int32.toInt ((up2_o hV28 (by decide)).trans ((ajV15 56 (Int32.toNatClampNeg p0) rfl).trans (up2_o hV6 (by decide))))
                    have pq477 : (V467 0 71).toInt = ((V15 0 71)).toInt := congrArg Int32.toInt ((up2_k hV467 (by decide)).trans (up2_k hV28 (by decide)))
                    have pq478 : (V467 0 72).toInt = ((V15 0 72)).toInt := congrArg Int32.toInt ((up2_k hV467 (by decide)).trans (up2_k hV28 (by decide)))
                    exact W.iret (v := 0) hx hb hr (fun t ht hW => ⟨⟨0, (V467, L), rfl, ⟨hMV467, agV467, rfl, (show (V467 0 65).toInt ≤ (V467 0 60).toInt from by (first | exact om_842ee80c0797 n1 pq468 pq469 | omega)), (show (V467 0 73).toInt - (V467 0 65).toInt ≤ (V 0 73).toInt - (V 0 65).toInt + 300 from by (first | exact om_763a2df3161d pq468 pq470 | omega)), (show (V467 0 76).toInt - (V467 0 69).toInt - (V467 0 73).toInt ≤ (V 0 76).toInt - (V 0 69).toInt - (V 0 73).toInt + 3000 from by (first | exact om_b7d0129991c5 r4.1 r5.2 t10 pq470 pq471 pq472 | omega)), r0475, (fun h9 => by have h1 := h9.1; have h2 := h9.2.1.1; have h3 := h9.2.1.2.1; have h4 := h9.2.1.2.2; have h5 := h9.2.2.1.1; have h6 := h9.2.2.1.2.1; have h7 := h9.2.2.1.2.2; have h8 := h9.2.2.2.1; have h10 := h9.2.2.2.2; have nw9 : (V 35 (nwh V)).toInt = (V 35 (Int32.toNatClampNeg (V 0 11))).toInt := rfl; exfalso; omega), (fun _ => ⟨by decide, by rw [mV_ag (show agr [(0, 70), (0, 76)] [] V15 V467 from (agr.up (agr.up agr.rf hV28 rfl) hV467 rfl)) (by decide), mb9], (show (V467 0 71).toInt = 0 from by (first | exact om_36161e850215 t14.1 pq477 | omega)), (show (V467 0 72).toInt = 0 from by (first | exact om_36161e850215 t14.2 pq478 | omega))⟩), (fun h9 => RJm.ag (bkq (by rw [show V 0 54 = V467 0 54 from ((show agr [(0, 0), (0, 69), (0, 70), (0, 71), (0, 72), (0, 76), (0, 93), (0, 95), (0, 98)] [] V V467 from (agr.up (agr.up (agr.tr (agr.up agr.rf hV6 rfl) ajV15 (by decide) (by decide)) hV28 rfl) hV467 rfl)) 0 54 rfl).symm]; exact h9)).2.2 (agr.d95 (show agr [(0, 0), (0, 69), (0, 70), (0, 71), (0, 72), (0, 76), (0, 93), (0, 95), (0, 98)] [] V V467 from (agr.up (agr.up (agr.tr (agr.up agr.rf hV6 rfl) ajV15 (by decide) (by decide)) hV28 rfl) hV467 rfl)) (show (V467 0 95).toInt = (V 0 95).toInt from by (first | exact om_844449b06c38 fz t13 pq473 | omega))) (by decide))⟩, by rw [ht]; exact hP, va_K.moved hW.alike hK, hD⟩, hS.F ht⟩) hS.2.2 dX12_call_109
                · skip
                  have f479 : ((V 0 54)).toInt = 0 := b_eq rfl (by decide) c446
                  exfalso; (first | exact om_0abcda13baee r421.1 f438 f479 | omega)
              · skip
                have f480 : z439.toInt ≠ 0 := b_neq rfl (by decide) c444
                refine lv_iload hx hb dX12_call_75 (lv_at hl 0 rfl) ?_
                refine lv_if_ne (tgt := 110) hx hb dX12_call_77 (by decide) (fun q => absurd rfl q) (fun _ => ?_)
                refine lv_aload_n hx hb dX12_call_80 rfl (lv_at hl 1 rfl) ?_
                refine lv_aload_n hx hb dX12_call_81 rfl (lv_at hl 1 rfl) ?_
                refine va_get (D := D) (ci := 12) (v := .int (V28 0 54)) (C := RX12) (T := TX12) (N := 100) hx hb hg inX12 hown hK hP 0 rfl rfl 54 (by decide) (hg _ w1760) (fun _ h9 => h9) rfl dX12_call_82 ?_
                refine g_top (v := (V 0 54)) ((up2_k hV28 (by decide)).trans ((ajV15 0 54 rfl).trans (up2_k hV6 (by decide)))) ?_
                refine lv_if_ne (tgt := 92) hx hb dX12_call_85 (by decide) (fun c481 => ?_) (fun c481 => ?_)
                · skip
                  have f482 : ((V 0 54)).toInt ≠ 0 := b_neq rfl (by decide) c481
                  refine lv_aload_n hx hb dX12_call_92 rfl (lv_at hl 1 rfl) ?_
                  refine lv_iload_n hx hb dX12_call_93 rfl (lv_at hl 2 rfl) ?_
                  refine gA_int (gA_runV (As := [.int p0]) (rest := [.ref (ad 0)]) (ci := 12) (q0 := 0) hx hb hml hown hg hP hD hK hS hA hnw hgk (s_isScope3 l D ks H.size ad kk V28 L p0 hMV28 ) w2223 w2225 w126 w172 w2226 rfl rfl hdV_yX12_isScope ⟨Nat.le_of_ble_eq_true rfl, Nat.le_of_ble_eq_true rfl⟩ rfl hl.1 rfl (Nat.le_of_ble_eq_true rfl) dX12_call_94 ⟨Nat.le_of_ble_eq_true rfl, Nat.le_of_ble_eq_true rfl⟩) hP hD hK hS hA (fun z483 u484 H locs w485 hP hD hK hS => ?_)
                  obtain ⟨rgz483, t486⟩ := w485
                  have rgz483 : 0 ≤ z483.toInt ∧ z483.toInt ≤ 1 := rgz483
                  have t486 : (z483.toInt = 1 ∧ 0 ≤ p0.toInt ∧ p0.toInt < (V28 0 55).toInt ∧ (V28 56 (Int32.toNatClampNeg p0)).toInt = 1) ∨ (z483.toInt = 0 ∧ (p0.toInt < 0 ∨ (V28 0 55).toInt ≤ p0.toInt ∨ (V28 56 (Int32.toNatClampNeg p0)).toInt = 0)) := t486
                  refine lv_if_ne (tgt := 104) hx hb dX12_call_97 (by decide) (fun c487 => ?_) (fun c487 => ?_)
                  · skip
                    have f488 : z483.toInt ≠ 0 := b_neq rfl (by decide) c487
                    refine lv_iconst (v := 4) hx hb dX12_call_104 (by decide) ?_
                    refine va_put (D := D) (ci := 12) (v := .int 4) (ty := tyX12 70) (C := RX12) (T := TX12) (N := 100) hx hb hg inX12 tyX12 tyX12_ok nmX12 hown hK hP hD hS 0 rfl rfl 70 (by decide) (hg _ w1776) (fun _ h9 => h9) rfl (tyX12_ok 70 (by decide)) rfl rfl (Nat.le_of_ble_eq_true rfl) dX12_call_105 (fun H locs hP hD hS => ?_)
                    obtain ⟨V489, hV489⟩ : ∃ z, z = up2 V28 0 70 4 := ⟨_, rfl⟩
                    have hP : va_P D vwCl (mw ad kk ks.1 V489 L) H := by rw [hV489]; exact hP
                    have hD : va_D A (mw ad kk ks.1 V489 L) := by rw [hV489]; exact hD
                    have hMV489 : rgd bM V489 := hMV28.put hV489 (i_full _)
                    have agV489 : agr [(0, 0), (0, 60), (0, 65), (0, 68), (0, 69), (0, 70), (0, 71), (0, 72), (0, 73), (0, 76), (0, 90), (0, 91), (0, 92), (0, 93), (0, 95), (0, 96), (0, 98)] [59, 61, 62, 63, 64, 66, 67, 74, 75, 77, 78, 79, 80, 94, 97] V V489 := agV28.up hV489 rfl
                    refine lv_iconst (v := 0) hx hb dX12_call_108 (by decide) ?_
                    have pq490 : (V489 0 65).toInt = ((V 0 65)).toInt := congrArg Int32.toInt ((up2_k hV489 (by decide)).trans ((up2_k hV28 (by decide)).trans ((ajV15 0 65 rfl).trans (up2_k hV6 (by decide)))))
                    have pq491 : (V489 0 60).toInt = ((V 0 60)).toInt := congrArg Int32.toInt ((up2_k hV489 (by decide)).trans ((up2_k hV28 (by decide)).trans ((ajV15 0 60 rfl).trans (up2_k hV6 (by decide)))))
                    have pq492 : (V489 0 73).toInt = ((V 0 73)).toInt := congrArg Int32.toInt ((up2_k hV489 (by decide)).trans ((up2_k hV28 (by decide)).trans ((ajV15 0 73 rfl).trans (up2_k hV6 (by decide)))))
                    have pq493 : (V489 0 76).toInt = 0 := (congrArg Int32.toInt ((up2_k hV489 (by decide)).trans (up2_s hV28))).trans (by decide)
                    have pq494 : (V489 0 69).toInt = ((V15 0 69)).toInt := congrArg Int32.toInt ((up2_k hV489 (by decide)).trans (up2_k hV28 (by decide)))
                    have pq495 : (V489 0 95).toInt = ((V15 0 95)).toInt := congrArg Int32.toInt ((up2_k hV489 (by decide)).trans (up2_k hV28 (by decide)))
                    have fz496 : (V 0 95).toInt = 0 := r0.2.2.2.2
                    have r0497 : RT0 V489 := RT0.ag r0 hMV (show agr [(0, 0), (0, 69), (0, 70), (0, 71), (0, 72), (0, 76), (0, 93), (0, 95), (0, 98)] [] V V489 from (agr.up (agr.up (agr.tr (agr.up agr.rf hV6 rfl) ajV15 (by decide) (by decide)) hV28 rfl) hV489 rfl)) ⟨⟨rfl, fun _ => rfl, fun _ => rfl, fun _ => rfl, fun _ => rfl, fun _ => rfl, fun _ => rfl⟩, by decide, by decide, rfl, rfl, fun _ => rfl, fun _ => rfl, fun _ => rfl⟩ (c0k.ag (show agr [(0, 0), (0, 69), (0, 70), (0, 71), (0, 72), (0, 76), (0, 93), (0, 95), (0, 98)] [] V V489 from (agr.up (agr.up (agr.tr (agr.up agr.rf hV6 rfl) ajV15 (by decide) (by decide)) hV28 rfl) hV489 rfl)) rfl) (by (first | exact om_36161e850215 t13 pq495 | omega))
                    have pq498 : (V28 56 (Int32.toNatClampNeg p0)).toInt = ((V 56 (Int32.toNatClampNeg p0))).toInt := congrArg Int32.toInt ((up2_o hV28 (by decide)).trans ((ajV15 56 (Int32.toNatClampNeg p0) rfl).trans (up2_o hV6 (by decide))))
                    have pq499 : (V489 0 71).toInt = ((V15 0 71)).toInt := congrArg Int32.toInt ((up2_k hV489 (by decide)).trans (up2_k hV28 (by decide)))
                    have pq500 : (V489 0 72).toInt = ((V15 0 72)).toInt := congrArg Int32.toInt ((up2_k hV489 (by decide)).trans (up2_k hV28 (by decide)))
                    exact W.iret (v := 0) hx hb hr (fun t ht hW => ⟨⟨0, (V489, L), rfl, ⟨hMV489, agV489, rfl, (show (V489 0 65).toInt ≤ (V489 0 60).toInt from by (first | exact om_842ee80c0797 n1 pq490 pq491 | omega)), (show (V489 0 73).toInt - (V489 0 65).toInt ≤ (V 0 73).toInt - (V 0 65).toInt + 300 from by (first | exact om_763a2df3161d pq490 pq492 | omega)), (show (V489 0 76).toInt - (V489 0 69).toInt - (V489 0 73).toInt ≤ (V 0 76).toInt - (V 0 69).toInt - (V 0 73).toInt + 3000 from by (first | exact om_b7d0129991c5 r4.1 r5.2 t10 pq492 pq493 pq494 | omega)), r0497, (fun h9 => by have h1 := h9.1; have h2 := h9.2.1.1; have h3 := h9.2.1.2.1; have h4 := h9.2.1.2.2; have h5 := h9.2.2.1.1; have h6 := h9.2.2.1.2.1; have h7 := h9.2.2.1.2.2; have h8 := h9.2.2.2.1; have h10 := h9.2.2.2.2; have nw9 : (V 35 (nwh V)).toInt = (V 35 (Int32.toNatClampNeg (V 0 11))).toInt := rfl; exfalso; omega), (fun _ => ⟨by decide, by rw [mV_ag (show agr [(0, 70), (0, 76)] [] V15 V489 from (agr.up (agr.up agr.rf hV28 rfl) hV489 rfl)) (by decide), mb9], (show (V489 0 71).toInt = 0 from by (first | exact om_36161e850215 t14.1 pq499 | omega)), (show (V489 0 72).toInt = 0 from by (first | exact om_36161e850215 t14.2 pq500 | omega))⟩), (fun h9 => RJm.ag (bkq (by rw [show V 0 54 = V489 0 54 from ((show agr [(0, 0), (0, 69), (0, 70), (0, 71), (0, 72), (0, 76), (0, 93), (0, 95), (0, 98)] [] V V489 from (agr.up (agr.up (agr.tr (agr.up agr.rf hV6 rfl) ajV15 (by decide) (by decide)) hV28 rfl) hV489 rfl)) 0 54 rfl).symm]; exact h9)).2.2 (agr.d95 (show agr [(0, 0), (0, 69), (0, 70), (0, 71), (0, 72), (0, 76), (0, 93), (0, 95), (0, 98)] [] V V489 from (agr.up (agr.up (agr.tr (agr.up agr.rf hV6 rfl) ajV15 (by decide) (by decide)) hV28 rfl) hV489 rfl)) (show (V489 0 95).toInt = (V 0 95).toInt from by (first | exact om_844449b06c38 fz t13 pq495 | omega))) (by decide))⟩, by rw [ht]; exact hP, va_K.moved hW.alike hK, hD⟩, hS.F ht⟩) hS.2.2 dX12_call_109
                  · skip
                    have f501 : z483.toInt = 0 := b_eq rfl (by decide) c487
                    refine lv_iconst (v := 3) hx hb dX12_call_100 (by decide) ?_
                    refine lv_goto (tgt := 105) hx hb dX12_call_101 (by decide) ?_
                    refine va_put (D := D) (ci := 12) (v := .int 3) (ty := tyX12 70) (C := RX12) (T := TX12) (N := 100) hx hb hg inX12 tyX12 tyX12_ok nmX12 hown hK hP hD hS 0 rfl rfl 70 (by decide) (hg _ w1776) (fun _ h9 => h9) rfl (tyX12_ok 70 (by decide)) rfl rfl (Nat.le_of_ble_eq_true rfl) dX12_call_105 (fun H locs hP hD hS => ?_)
                    obtain ⟨V502, hV502⟩ : ∃ z, z = up2 V28 0 70 3 := ⟨_, rfl⟩
                    have hP : va_P D vwCl (mw ad kk ks.1 V502 L) H := by rw [hV502]; exact hP
                    have hD : va_D A (mw ad kk ks.1 V502 L) := by rw [hV502]; exact hD
                    have hMV502 : rgd bM V502 := hMV28.put hV502 (i_full _)
                    have agV502 : agr [(0, 0), (0, 60), (0, 65), (0, 68), (0, 69), (0, 70), (0, 71), (0, 72), (0, 73), (0, 76), (0, 90), (0, 91), (0, 92), (0, 93), (0, 95), (0, 96), (0, 98)] [59, 61, 62, 63, 64, 66, 67, 74, 75, 77, 78, 79, 80, 94, 97] V V502 := agV28.up hV502 rfl
                    refine lv_iconst (v := 0) hx hb dX12_call_108 (by decide) ?_
                    have pq503 : (V502 0 65).toInt = ((V 0 65)).toInt := congrArg Int32.toInt ((up2_k hV502 (by decide)).trans ((up2_k hV28 (by decide)).trans ((ajV15 0 65 rfl).trans (up2_k hV6 (by decide)))))
                    have pq504 : (V502 0 60).toInt = ((V 0 60)).toInt := congrArg Int32.toInt ((up2_k hV502 (by decide)).trans ((up2_k hV28 (by decide)).trans ((ajV15 0 60 rfl).trans (up2_k hV6 (by decide)))))
                    have pq505 : (V502 0 73).toInt = ((V 0 73)).toInt := congrArg Int32.toInt ((up2_k hV502 (by decide)).trans ((up2_k hV28 (by decide)).trans ((ajV15 0 73 rfl).trans (up2_k hV6 (by decide)))))
                    have pq506 : (V502 0 76).toInt = 0 := (congrArg Int32.toInt ((up2_k hV502 (by decide)).trans (up2_s hV28))).trans (by decide)
                    have pq507 : (V502 0 69).toInt = ((V15 0 69)).toInt := congrArg Int32.toInt ((up2_k hV502 (by decide)).trans (up2_k hV28 (by decide)))
                    have pq508 : (V502 0 95).toInt = ((V15 0 95)).toInt := congrArg Int32.toInt ((up2_k hV502 (by decide)).trans (up2_k hV28 (by decide)))
                    have fz509 : (V 0 95).toInt = 0 := r0.2.2.2.2
                    have r0510 : RT0 V502 := RT0.ag r0 hMV (show agr [(0, 0), (0, 69), (0, 70), (0, 71), (0, 72), (0, 76), (0, 93), (0, 95), (0, 98)] [] V V502 from (agr.up (agr.up (agr.tr (agr.up agr.rf hV6 rfl) ajV15 (by decide) (by decide)) hV28 rfl) hV502 rfl)) ⟨⟨rfl, fun _ => rfl, fun _ => rfl, fun _ => rfl, fun _ => rfl, fun _ => rfl, fun _ => rfl⟩, by decide, by decide, rfl, rfl, fun _ => rfl, fun _ => rfl, fun _ => rfl⟩ (c0k.ag (show agr [(0, 0), (0, 69), (0, 70), (0, 71), (0, 72), (0, 76), (0, 93), (0, 95), (0, 98)] [] V V502 from (agr.up (agr.up (agr.tr (agr.up agr.rf hV6 rfl) ajV15 (by decide) (by decide)) hV28 rfl) hV502 rfl)) rfl) (by (first | exact om_36161e850215 t13 pq508 | omega))
                    have pq511 : (V28 56 (Int32.toNatClampNeg p0)).toInt = ((V 56 (Int32.toNatClampNeg p0))).toInt := congrArg Int32.toInt ((up2_o hV28 (by decide)).trans ((ajV15 56 (Int32.toNatClampNeg p0) rfl).trans (up2_o hV6 (by decide))))
                    have pq512 : (V502 0 71).toInt = ((V15 0 71)).toInt := congrArg Int32.toInt ((up2_k hV502 (by decide)).trans (up2_k hV28 (by decide)))
                    have pq513 : (V502 0 72).toInt = ((V15 0 72)).toInt := congrArg Int32.toInt ((up2_k hV502 (by decide)).trans (up2_k hV28 (by decide)))
                    exact W.iret (v := 0) hx hb hr (fun t ht hW => ⟨⟨0, (V502, L), rfl, ⟨hMV502, agV502, rfl, (show (V502 0 65).toInt ≤ (V502 0 60).toInt from by (first | exact om_842ee80c0797 n1 pq503 pq504 | omega)), (show (V502 0 73).toInt - (V502 0 65).toInt ≤ (V 0 73).toInt - (V 0 65).toInt + 300 from by (first | exact om_763a2df3161d pq503 pq505 | omega)), (show (V502 0 76).toInt - (V502 0 69).toInt - (V502 0 73).toInt ≤ (V 0 76).toInt - (V 0 69).toInt - (V 0 73).toInt + 3000 from by (first | exact om_b7d0129991c5 r4.1 r5.2 t10 pq505 pq506 pq507 | omega)), r0510, (fun h9 => by have h1 := h9.1; have h2 := h9.2.1.1; have h3 := h9.2.1.2.1; have h4 := h9.2.1.2.2; have h5 := h9.2.2.1.1; have h6 := h9.2.2.1.2.1; have h7 := h9.2.2.1.2.2; have h8 := h9.2.2.2.1; have h10 := h9.2.2.2.2; have nw9 : (V 35 (nwh V)).toInt = (V 35 (Int32.toNatClampNeg (V 0 11))).toInt := rfl; exfalso; omega), (fun _ => ⟨by decide, by rw [mV_ag (show agr [(0, 70), (0, 76)] [] V15 V502 from (agr.up (agr.up agr.rf hV28 rfl) hV502 rfl)) (by decide), mb9], (show (V502 0 71).toInt = 0 from by (first | exact om_36161e850215 t14.1 pq512 | omega)), (show (V502 0 72).toInt = 0 from by (first | exact om_36161e850215 t14.2 pq513 | omega))⟩), (fun h9 => RJm.ag (bkq (by rw [show V 0 54 = V502 0 54 from ((show agr [(0, 0), (0, 69), (0, 70), (0, 71), (0, 72), (0, 76), (0, 93), (0, 95), (0, 98)] [] V V502 from (agr.up (agr.up (agr.tr (agr.up agr.rf hV6 rfl) ajV15 (by decide) (by decide)) hV28 rfl) hV502 rfl)) 0 54 rfl).symm]; exact h9)).2.2 (agr.d95 (show agr [(0, 0), (0, 69), (0, 70), (0, 71), (0, 72), (0, 76), (0, 93), (0, 95), (0, 98)] [] V V502 from (agr.up (agr.up (agr.tr (agr.up agr.rf hV6 rfl) ajV15 (by decide) (by decide)) hV28 rfl) hV502 rfl)) (show (V502 0 95).toInt = (V 0 95).toInt from by (first | exact om_844449b06c38 fz t13 pq508 | omega))) (by decide))⟩, by rw [ht]; exact hP, va_K.moved hW.alike hK, hD⟩, hS.F ht⟩) hS.2.2 dX12_call_109
                · skip
                  have f514 : ((V 0 54)).toInt = 0 := b_eq rfl (by decide) c481
                  exfalso; (first | exact om_0abcda13baee r421.1 f438 f514 | omega)
          · skip
            have f515 : p2.toInt < ((V 35 (Int32.toNatClampNeg (V 0 11)))).toInt := b_nle rfl rfl c419
            refine lv_iconst (v := 1) hx hb dX12_call_53 (by decide) ?_
            refine lv_goto (tgt := 58) hx hb dX12_call_54 (by decide) ?_
            refine lv_istore (lv' := [(5, .int 1), (0, .ref (ad 0)), (1, .int p0), (2, .int p1), (3, .int p2), (4, .int p3)]) hx hb dX12_call_58 hl (by decide) rfl (fun ls hl => ?_)
            refine lv_aload_n hx hb dX12_call_60 rfl (lv_at hl 1 rfl) ?_
            refine va_get (D := D) (ci := 12) (v := .int (V28 0 54)) (C := RX12) (T := TX12) (N := 100) hx hb hg inX12 hown hK hP 0 rfl rfl 54 (by decide) (hg _ w1760) (fun _ h9 => h9) rfl dX12_call_61 ?_
            refine g_top (v := (V 0 54)) ((up2_k hV28 (by decide)).trans ((ajV15 0 54 rfl).trans (up2_k hV6 (by decide)))) ?_
            have r516 : 0 ≤ ((V 0 54)).toInt ∧ ((V 0 54)).toInt ≤ 1 := hMV 0 54
            refine lv_if_eq (tgt := 80) hx hb dX12_call_64 (by decide) (fun c517 => ?_) (fun c517 => ?_)
            · skip
              have f518 : ((V 0 54)).toInt = 0 := b_eq rfl (by decide) c517
              refine lv_aload_n hx hb dX12_call_80 rfl (lv_at hl 1 rfl) ?_
              refine lv_aload_n hx hb dX12_call_81 rfl (lv_at hl 1 rfl) ?_
              refine va_get (D := D) (ci := 12) (v := .int (V28 0 54)) (C := RX12) (T := TX12) (N := 100) hx hb hg inX12 hown hK hP 0 rfl rfl 54 (by decide) (hg _ w1760) (fun _ h9 => h9) rfl dX12_call_82 ?_
              refine g_top (v := (V 0 54)) ((up2_k hV28 (by decide)).trans ((ajV15 0 54 rfl).trans (up2_k hV6 (by decide)))) ?_
              refine lv_if_ne (tgt := 92) hx hb dX12_call_85 (by decide) (fun c519 => ?_) (fun c519 => ?_)
              · skip
                have f520 : ((V 0 54)).toInt ≠ 0 := b_neq rfl (by decide) c519
                exfalso; (first | exact om_fb320d7600b7 r516.1 f518 f520 | omega)
              · skip
                have f521 : ((V 0 54)).toInt = 0 := b_eq rfl (by decide) c519
                refine lv_iconst (v := 4) hx hb dX12_call_88 (by decide) ?_
                refine lv_goto (tgt := 105) hx hb dX12_call_89 (by decide) ?_
                refine va_put (D := D) (ci := 12) (v := .int 4) (ty := tyX12 70) (C := RX12) (T := TX12) (N := 100) hx hb hg inX12 tyX12 tyX12_ok nmX12 hown hK hP hD hS 0 rfl rfl 70 (by decide) (hg _ w1776) (fun _ h9 => h9) rfl (tyX12_ok 70 (by decide)) rfl rfl (Nat.le_of_ble_eq_true rfl) dX12_call_105 (fun H locs hP hD hS => ?_)
                obtain ⟨V522, hV522⟩ : ∃ z, z = up2 V28 0 70 4 := ⟨_, rfl⟩
                have hP : va_P D vwCl (mw ad kk ks.1 V522 L) H := by rw [hV522]; exact hP
                have hD : va_D A (mw ad kk ks.1 V522 L) := by rw [hV522]; exact hD
                have hMV522 : rgd bM V522 := hMV28.put hV522 (i_full _)
                have agV522 : agr [(0, 0), (0, 60), (0, 65), (0, 68), (0, 69), (0, 70), (0, 71), (0, 72), (0, 73), (0, 76), (0, 90), (0, 91), (0, 92), (0, 93), (0, 95), (0, 96), (0, 98)] [59, 61, 62, 63, 64, 66, 67, 74, 75, 77, 78, 79, 80, 94, 97] V V522 := agV28.up hV522 rfl
                refine lv_iconst (v := 0) hx hb dX12_call_108 (by decide) ?_
                have pq523 : (V522 0 65).toInt = ((V 0 65)).toInt := congrArg Int32.toInt ((up2_k hV522 (by decide)).trans ((up2_k hV28 (by decide)).trans ((ajV15 0 65 rfl).trans (up2_k hV6 (by decide)))))
                have pq524 : (V522 0 60).toInt = ((V 0 60)).toInt := congrArg Int32.toInt ((up2_k hV522 (by decide)).trans ((up2_k hV28 (by decide)).trans ((ajV15 0 60 rfl).trans (up2_k hV6 (by decide)))))
                have pq525 : (V522 0 73).toInt = ((V 0 73)).toInt := congrArg Int32.toInt ((up2_k hV522 (by decide)).trans ((up2_k hV28 (by decide)).trans ((ajV15 0 73 rfl).trans (up2_k hV6 (by decide)))))
                have pq526 : (V522 0 76).toInt = 0 := (congrArg Int32.toInt ((up2_k hV522 (by decide)).trans (up2_s hV28))).trans (by decide)
                have pq527 : (V522 0 69).toInt = ((V15 0 69)).toInt := congrArg Int32.toInt ((up2_k hV522 (by decide)).trans (up2_k hV28 (by decide)))
                have pq528 : (V522 0 95).toInt = ((V15 0 95)).toInt := congrArg Int32.toInt ((up2_k hV522 (by decide)).trans (up2_k hV28 (by decide)))
                have fz529 : (V 0 95).toInt = 0 := r0.2.2.2.2
                have r0530 : RT0 V522 := RT0.ag r0 hMV (show agr [(0, 0), (0, 69), (0, 70), (0, 71), (0, 72), (0, 76), (0, 93), (0, 95), (0, 98)] [] V V522 from (agr.up (agr.up (agr.tr (agr.up agr.rf hV6 rfl) ajV15 (by decide) (by decide)) hV28 rfl) hV522 rfl)) ⟨⟨rfl, fun _ => rfl, fun _ => rfl, fun _ => rfl, fun _ => rfl, fun _ => rfl, fun _ => rfl⟩, by decide, by decide, rfl, rfl, fun _ => rfl, fun _ => rfl, fun _ => rfl⟩ (c0k.ag (show agr [(0, 0), (0, 69), (0, 70), (0, 71), (0, 72), (0, 76), (0, 93), (0, 95), (0, 98)] [] V V522 from (agr.up (agr.up (agr.tr (agr.up agr.rf hV6 rfl) ajV15 (by decide) (by decide)) hV28 rfl) hV522 rfl)) rfl) (by (first | exact om_36161e850215 t13 pq528 | omega))
                have pq531 : (V522 0 71).toInt = ((V15 0 71)).toInt := congrArg Int32.toInt ((up2_k hV522 (by decide)).trans (up2_k hV28 (by decide)))
                have pq532 : (V522 0 72).toInt = ((V15 0 72)).toInt := congrArg Int32.toInt ((up2_k hV522 (by decide)).trans (up2_k hV28 (by decide)))
                exact W.iret (v := 0) hx hb hr (fun t ht hW => ⟨⟨0, (V522, L), rfl, ⟨hMV522, agV522, rfl, (show (V522 0 65).toInt ≤ (V522 0 60).toInt from by (first | exact om_842ee80c0797 n1 pq523 pq524 | omega)), (show (V522 0 73).toInt - (V522 0 65).toInt ≤ (V 0 73).toInt - (V 0 65).toInt + 300 from by (first | exact om_763a2df3161d pq523 pq525 | omega)), (show (V522 0 76).toInt - (V522 0 69).toInt - (V522 0 73).toInt ≤ (V 0 76).toInt - (V 0 69).toInt - (V 0 73).toInt + 3000 from by (first | exact om_b7d0129991c5 r4.1 r5.2 t10 pq525 pq526 pq527 | omega)), r0530, (fun h9 => by have h1 := h9.1; have h2 := h9.2.1.1; have h3 := h9.2.1.2.1; have h4 := h9.2.1.2.2; have h5 := h9.2.2.1.1; have h6 := h9.2.2.1.2.1; have h7 := h9.2.2.1.2.2; have h8 := h9.2.2.2.1; have h10 := h9.2.2.2.2; have nw9 : (V 35 (nwh V)).toInt = (V 35 (Int32.toNatClampNeg (V 0 11))).toInt := rfl; exfalso; omega), (fun _ => ⟨by decide, by rw [mV_ag (show agr [(0, 70), (0, 76)] [] V15 V522 from (agr.up (agr.up agr.rf hV28 rfl) hV522 rfl)) (by decide), mb9], (show (V522 0 71).toInt = 0 from by (first | exact om_36161e850215 t14.1 pq531 | omega)), (show (V522 0 72).toInt = 0 from by (first | exact om_36161e850215 t14.2 pq532 | omega))⟩), (fun h9 => RJm.ag (bkq (by rw [show V 0 54 = V522 0 54 from ((show agr [(0, 0), (0, 69), (0, 70), (0, 71), (0, 72), (0, 76), (0, 93), (0, 95), (0, 98)] [] V V522 from (agr.up (agr.up (agr.tr (agr.up agr.rf hV6 rfl) ajV15 (by decide) (by decide)) hV28 rfl) hV522 rfl)) 0 54 rfl).symm]; exact h9)).2.2 (agr.d95 (show agr [(0, 0), (0, 69), (0, 70), (0, 71), (0, 72), (0, 76), (0, 93), (0, 95), (0, 98)] [] V V522 from (agr.up (agr.up (agr.tr (agr.up agr.rf hV6 rfl) ajV15 (by decide) (by decide)) hV28 rfl) hV522 rfl)) (show (V522 0 95).toInt = (V 0 95).toInt from by (first | exact om_844449b06c38 fz t13 pq528 | omega))) (by decide))⟩, by rw [ht]; exact hP, va_K.moved hW.alike hK, hD⟩, hS.F ht⟩) hS.2.2 dX12_call_109
            · skip
              have f533 : ((V 0 54)).toInt ≠ 0 := b_neq rfl (by decide) c517
              refine lv_aload_n hx hb dX12_call_67 rfl (lv_at hl 1 rfl) ?_
              refine lv_iload_n hx hb dX12_call_68 rfl (lv_at hl 2 rfl) ?_
              refine gA_int (gA_runV (As := [.int p0]) (rest := []) (ci := 12) (q0 := 0) hx hb hml hown hg hP hD hK hS hA hnw hgk (s_isScope3 l D ks H.size ad kk V28 L p0 hMV28 ) w2223 w2225 w126 w172 w2226 rfl rfl hdV_yX12_isScope ⟨Nat.le_of_ble_eq_true rfl, Nat.le_of_ble_eq_true rfl⟩ rfl hl.1 rfl (Nat.le_of_ble_eq_true rfl) dX12_call_69 ⟨Nat.le_of_ble_eq_true rfl, Nat.le_of_ble_eq_true rfl⟩) hP hD hK hS hA (fun z534 u535 H locs w536 hP hD hK hS => ?_)
              obtain ⟨rgz534, t537⟩ := w536
              have rgz534 : 0 ≤ z534.toInt ∧ z534.toInt ≤ 1 := rgz534
              have t537 : (z534.toInt = 1 ∧ 0 ≤ p0.toInt ∧ p0.toInt < (V28 0 55).toInt ∧ (V28 56 (Int32.toNatClampNeg p0)).toInt = 1) ∨ (z534.toInt = 0 ∧ (p0.toInt < 0 ∨ (V28 0 55).toInt ≤ p0.toInt ∨ (V28 56 (Int32.toNatClampNeg p0)).toInt = 0)) := t537
              have pq538 : (V28 0 55).toInt = ((V 0 55)).toInt := congrArg Int32.toInt ((up2_k hV28 (by decide)).trans ((ajV15 0 55 rfl).trans (up2_k hV6 (by decide))))
              refine lv_if_eq (tgt := 80) hx hb dX12_call_72 (by decide) (fun c539 => ?_) (fun c539 => ?_)
              · skip
                have f540 : z534.toInt = 0 := b_eq rfl (by decide) c539
                refine lv_aload_n hx hb dX12_call_80 rfl (lv_at hl 1 rfl) ?_
                refine lv_aload_n hx hb dX12_call_81 rfl (lv_at hl 1 rfl) ?_
                refine va_get (D := D) (ci := 12) (v := .int (V28 0 54)) (C := RX12) (T := TX12) (N := 100) hx hb hg inX12 hown hK hP 0 rfl rfl 54 (by decide) (hg _ w1760) (fun _ h9 => h9) rfl dX12_call_82 ?_
                refine g_top (v := (V 0 54)) ((up2_k hV28 (by decide)).trans ((ajV15 0 54 rfl).trans (up2_k hV6 (by decide)))) ?_
                refine lv_if_ne (tgt := 92) hx hb dX12_call_85 (by decide) (fun c541 => ?_) (fun c541 => ?_)
                · skip
                  have f542 : ((V 0 54)).toInt ≠ 0 := b_neq rfl (by decide) c541
                  refine lv_aload_n hx hb dX12_call_92 rfl (lv_at hl 1 rfl) ?_
                  refine lv_iload_n hx hb dX12_call_93 rfl (lv_at hl 2 rfl) ?_
                  refine gA_int (gA_runV (As := [.int p0]) (rest := [.ref (ad 0)]) (ci := 12) (q0 := 0) hx hb hml hown hg hP hD hK hS hA hnw hgk (s_isScope3 l D ks H.size ad kk V28 L p0 hMV28 ) w2223 w2225 w126 w172 w2226 rfl rfl hdV_yX12_isScope ⟨Nat.le_of_ble_eq_true rfl, Nat.le_of_ble_eq_true rfl⟩ rfl hl.1 rfl (Nat.le_of_ble_eq_true rfl) dX12_call_94 ⟨Nat.le_of_ble_eq_true rfl, Nat.le_of_ble_eq_true rfl⟩) hP hD hK hS hA (fun z543 u544 H locs w545 hP hD hK hS => ?_)
                  obtain ⟨rgz543, t546⟩ := w545
                  have rgz543 : 0 ≤ z543.toInt ∧ z543.toInt ≤ 1 := rgz543
                  have t546 : (z543.toInt = 1 ∧ 0 ≤ p0.toInt ∧ p0.toInt < (V28 0 55).toInt ∧ (V28 56 (Int32.toNatClampNeg p0)).toInt = 1) ∨ (z543.toInt = 0 ∧ (p0.toInt < 0 ∨ (V28 0 55).toInt ≤ p0.toInt ∨ (V28 56 (Int32.toNatClampNeg p0)).toInt = 0)) := t546
                  refine lv_if_ne (tgt := 104) hx hb dX12_call_97 (by decide) (fun c547 => ?_) (fun c547 => ?_)
                  · skip
                    have f548 : z543.toInt ≠ 0 := b_neq rfl (by decide) c547
                    refine lv_iconst (v := 4) hx hb dX12_call_104 (by decide) ?_
                    refine va_put (D := D) (ci := 12) (v := .int 4) (ty := tyX12 70) (C := RX12) (T := TX12) (N := 100) hx hb hg inX12 tyX12 tyX12_ok nmX12 hown hK hP hD hS 0 rfl rfl 70 (by decide) (hg _ w1776) (fun _ h9 => h9) rfl (tyX12_ok 70 (by decide)) rfl rfl (Nat.le_of_ble_eq_true rfl) dX12_call_105 (fun H locs hP hD hS => ?_)
                    obtain ⟨V549, hV549⟩ : ∃ z, z = up2 V28 0 70 4 := ⟨_, rfl⟩
                    have hP : va_P D vwCl (mw ad kk ks.1 V549 L) H := by rw [hV549]; exact hP
                    have hD : va_D A (mw ad kk ks.1 V549 L) := by rw [hV549]; exact hD
                    have hMV549 : rgd bM V549 := hMV28.put hV549 (i_full _)
                    have agV549 : agr [(0, 0), (0, 60), (0, 65), (0, 68), (0, 69), (0, 70), (0, 71), (0, 72), (0, 73), (0, 76), (0, 90), (0, 91), (0, 92), (0, 93), (0, 95), (0, 96), (0, 98)] [59, 61, 62, 63, 64, 66, 67, 74, 75, 77, 78, 79, 80, 94, 97] V V549 := agV28.up hV549 rfl
                    refine lv_iconst (v := 0) hx hb dX12_call_108 (by decide) ?_
                    have pq550 : (V549 0 65).toInt = ((V 0 65)).toInt := congrArg Int32.toInt ((up2_k hV549 (by decide)).trans ((up2_k hV28 (by decide)).trans ((ajV15 0 65 rfl).trans (up2_k hV6 (by decide)))))
                    have pq551 : (V549 0 60).toInt = ((V 0 60)).toInt := congrArg Int32.toInt ((up2_k hV549 (by decide)).trans ((up2_k hV28 (by decide)).trans ((ajV15 0 60 rfl).trans (up2_k hV6 (by decide)))))
                    have pq552 : (V549 0 73).toInt = ((V 0 73)).toInt := congrArg Int32.toInt ((up2_k hV549 (by decide)).trans ((up2_k hV28 (by decide)).trans ((ajV15 0 73 rfl).trans (up2_k hV6 (by decide)))))
                    have pq553 : (V549 0 76).toInt = 0 := (congrArg Int32.toInt ((up2_k hV549 (by decide)).trans (up2_s hV28))).trans (by decide)
                    have pq554 : (V549 0 69).toInt = ((V15 0 69)).toInt := congrArg Int32.toInt ((up2_k hV549 (by decide)).trans (up2_k hV28 (by decide)))
                    have pq555 : (V549 0 95).toInt = ((V15 0 95)).toInt := congrArg Int32.toInt ((up2_k hV549 (by decide)).trans (up2_k hV28 (by decide)))
                    have fz556 : (V 0 95).toInt = 0 := r0.2.2.2.2
                    have r0557 : RT0 V549 := RT0.ag r0 hMV (show agr [(0, 0), (0, 69), (0, 70), (0, 71), (0, 72), (0, 76), (0, 93), (0, 95), (0, 98)] [] V V549 from (agr.up (agr.up (agr.tr (agr.up agr.rf hV6 rfl) ajV15 (by decide) (by decide)) hV28 rfl) hV549 rfl)) ⟨⟨rfl, fun _ => rfl, fun _ => rfl, fun _ => rfl, fun _ => rfl, fun _ => rfl, fun _ => rfl⟩, by decide, by decide, rfl, rfl, fun _ => rfl, fun _ => rfl, fun _ => rfl⟩ (c0k.ag (show agr [(0, 0), (0, 69), (0, 70), (0, 71), (0, 72), (0, 76), (0, 93), (0, 95), (0, 98)] [] V V549 from (agr.up (agr.up (agr.tr (agr.up agr.rf hV6 rfl) ajV15 (by decide) (by decide)) hV28 rfl) hV549 rfl)) rfl) (by (first | exact om_36161e850215 t13 pq555 | omega))
                    have pq558 : (V28 56 (Int32.toNatClampNeg p0)).toInt = ((V 56 (Int32.toNatClampNeg p0))).toInt := congrArg Int32.toInt ((up2_o hV28 (by decide)).trans ((ajV15 56 (Int32.toNatClampNeg p0) rfl).trans (up2_o hV6 (by decide))))
                    have pq559 : (V549 0 71).toInt = ((V15 0 71)).toInt := congrArg Int32.toInt ((up2_k hV549 (by decide)).trans (up2_k hV28 (by decide)))
                    have pq560 : (V549 0 72).toInt = ((V15 0 72)).toInt := congrArg Int32.toInt ((up2_k hV549 (by decide)).trans (up2_k hV28 (by decide)))
                    exact W.iret (v := 0) hx hb hr (fun t ht hW => ⟨⟨0, (V549, L), rfl, ⟨hMV549, agV549, rfl, (show (V549 0 65).toInt ≤ (V549 0 60).toInt from by (first | exact om_842ee80c0797 n1 pq550 pq551 | omega)), (show (V549 0 73).toInt - (V549 0 65).toInt ≤ (V 0 73).toInt - (V 0 65).toInt + 300 from by (first | exact om_763a2df3161d pq550 pq552 | omega)), (show (V549 0 76).toInt - (V549 0 69).toInt - (V549 0 73).toInt ≤ (V 0 76).toInt - (V 0 69).toInt - (V 0 73).toInt + 3000 from by (first | exact om_b7d0129991c5 r4.1 r5.2 t10 pq552 pq553 pq554 | omega)), r0557, (fun h9 => by have h1 := h9.1; have h2 := h9.2.1.1; have h3 := h9.2.1.2.1; have h4 := h9.2.1.2.2; have h5 := h9.2.2.1.1; have h6 := h9.2.2.1.2.1; have h7 := h9.2.2.1.2.2; have h8 := h9.2.2.2.1; have h10 := h9.2.2.2.2; have nw9 : (V 35 (nwh V)).toInt = (V 35 (Int32.toNatClampNeg (V 0 11))).toInt := rfl; exfalso; omega), (fun _ => ⟨by decide, by rw [mV_ag (show agr [(0, 70), (0, 76)] [] V15 V549 from (agr.up (agr.up agr.rf hV28 rfl) hV549 rfl)) (by decide), mb9], (show (V549 0 71).toInt = 0 from by (first | exact om_36161e850215 t14.1 pq559 | omega)), (show (V549 0 72).toInt = 0 from by (first | exact om_36161e850215 t14.2 pq560 | omega))⟩), (fun h9 => RJm.ag (bkq (by rw [show V 0 54 = V549 0 54 from ((show agr [(0, 0), (0, 69), (0, 70), (0, 71), (0, 72), (0, 76), (0, 93), (0, 95), (0, 98)] [] V V549 from (agr.up (agr.up (agr.tr (agr.up agr.rf hV6 rfl) ajV15 (by decide) (by decide)) hV28 rfl) hV549 rfl)) 0 54 rfl).symm]; exact h9)).2.2 (agr.d95 (show agr [(0, 0), (0, 69), (0, 70), (0, 71), (0, 72), (0, 76), (0, 93), (0, 95), (0, 98)] [] V V549 from (agr.up (agr.up (agr.tr (agr.up agr.rf hV6 rfl) ajV15 (by decide) (by decide)) hV28 rfl) hV549 rfl)) (show (V549 0 95).toInt = (V 0 95).toInt from by (first | exact om_844449b06c38 fz t13 pq555 | omega))) (by decide))⟩, by rw [ht]; exact hP, va_K.moved hW.alike hK, hD⟩, hS.F ht⟩) hS.2.2 dX12_call_109
                  · skip
                    have f561 : z543.toInt = 0 := b_eq rfl (by decide) c547
                    refine lv_iconst (v := 3) hx hb dX12_call_100 (by decide) ?_
                    refine lv_goto (tgt := 105) hx hb dX12_call_101 (by decide) ?_
                    refine va_put (D := D) (ci := 12) (v := .int 3) (ty := tyX12 70) (C := RX12) (T := TX12) (N := 100) hx hb hg inX12 tyX12 tyX12_ok nmX12 hown hK hP hD hS 0 rfl rfl 70 (by decide) (hg _ w1776) (fun _ h9 => h9) rfl (tyX12_ok 70 (by decide)) rfl rfl (Nat.le_of_ble_eq_true rfl) dX12_call_105 (fun H locs hP hD hS => ?_)
                    obtain ⟨V562, hV562⟩ : ∃ z, z = up2 V28 0 70 3 := ⟨_, rfl⟩
                    have hP : va_P D vwCl (mw ad kk ks.1 V562 L) H := by rw [hV562]; exact hP
                    have hD : va_D A (mw ad kk ks.1 V562 L) := by rw [hV562]; exact hD
                    have hMV562 : rgd bM V562 := hMV28.put hV562 (i_full _)
                    have agV562 : agr [(0, 0), (0, 60), (0, 65), (0, 68), (0, 69), (0, 70), (0, 71), (0, 72), (0, 73), (0, 76), (0, 90), (0, 91), (0, 92), (0, 93), (0, 95), (0, 96), (0, 98)] [59, 61, 62, 63, 64, 66, 67, 74, 75, 77, 78, 79, 80, 94, 97] V V562 := agV28.up hV562 rfl
                    refine lv_iconst (v := 0) hx hb dX12_call_108 (by decide) ?_
                    have pq563 : (V562 0 65).toInt = ((V 0 65)).toInt := congrArg Int32.toInt ((up2_k hV562 (by decide)).trans ((up2_k hV28 (by decide)).trans ((ajV15 0 65 rfl).trans (up2_k hV6 (by decide)))))
                    have pq564 : (V562 0 60).toInt = ((V 0 60)).toInt := congrArg Int32.toInt ((up2_k hV562 (by decide)).trans ((up2_k hV28 (by decide)).trans ((ajV15 0 60 rfl).trans (up2_k hV6 (by decide)))))
                    have pq565 : (V562 0 73).toInt = ((V 0 73)).toInt := congrArg Int32.toInt ((up2_k hV562 (by decide)).trans ((up2_k hV28 (by decide)).trans ((ajV15 0 73 rfl).trans (up2_k hV6 (by decide)))))
                    have pq566 : (V562 0 76).toInt = 0 := (congrArg Int32.toInt ((up2_k hV562 (by decide)).trans (up2_s hV28))).trans (by decide)
                    have pq567 : (V562 0 69).toInt = ((V15 0 69)).toInt := congrArg Int32.toInt ((up2_k hV562 (by decide)).trans (up2_k hV28 (by decide)))
                    have pq568 : (V562 0 95).toInt = ((V15 0 95)).toInt := congrArg Int32.toInt ((up2_k hV562 (by decide)).trans (up2_k hV28 (by decide)))
                    have fz569 : (V 0 95).toInt = 0 := r0.2.2.2.2
                    have r0570 : RT0 V562 := RT0.ag r0 hMV (show agr [(0, 0), (0, 69), (0, 70), (0, 71), (0, 72), (0, 76), (0, 93), (0, 95), (0, 98)] [] V V562 from (agr.up (agr.up (agr.tr (agr.up agr.rf hV6 rfl) ajV15 (by decide) (by decide)) hV28 rfl) hV562 rfl)) ⟨⟨rfl, fun _ => rfl, fun _ => rfl, fun _ => rfl, fun _ => rfl, fun _ => rfl, fun _ => rfl⟩, by decide, by decide, rfl, rfl, fun _ => rfl, fun _ => rfl, fun _ => rfl⟩ (c0k.ag (show agr [(0, 0), (0, 69), (0, 70), (0, 71), (0, 72), (0, 76), (0, 93), (0, 95), (0, 98)] [] V V562 from (agr.up (agr.up (agr.tr (agr.up agr.rf hV6 rfl) ajV15 (by decide) (by decide)) hV28 rfl) hV562 rfl)) rfl) (by (first | exact om_36161e850215 t13 pq568 | omega))
                    have pq571 : (V28 56 (Int32.toNatClampNeg p0)).toInt = ((V 56 (Int32.toNatClampNeg p0))).toInt := congrArg Int32.toInt ((up2_o hV28 (by decide)).trans ((ajV15 56 (Int32.toNatClampNeg p0) rfl).trans (up2_o hV6 (by decide))))
                    have pq572 : (V562 0 71).toInt = ((V15 0 71)).toInt := congrArg Int32.toInt ((up2_k hV562 (by decide)).trans (up2_k hV28 (by decide)))
                    have pq573 : (V562 0 72).toInt = ((V15 0 72)).toInt := congrArg Int32.toInt ((up2_k hV562 (by decide)).trans (up2_k hV28 (by decide)))
                    exact W.iret (v := 0) hx hb hr (fun t ht hW => ⟨⟨0, (V562, L), rfl, ⟨hMV562, agV562, rfl, (show (V562 0 65).toInt ≤ (V562 0 60).toInt from by (first | exact om_842ee80c0797 n1 pq563 pq564 | omega)), (show (V562 0 73).toInt - (V562 0 65).toInt ≤ (V 0 73).toInt - (V 0 65).toInt + 300 from by (first | exact om_763a2df3161d pq563 pq565 | omega)), (show (V562 0 76).toInt - (V562 0 69).toInt - (V562 0 73).toInt ≤ (V 0 76).toInt - (V 0 69).toInt - (V 0 73).toInt + 3000 from by (first | exact om_b7d0129991c5 r4.1 r5.2 t10 pq565 pq566 pq567 | omega)), r0570, (fun h9 => by have h1 := h9.1; have h2 := h9.2.1.1; have h3 := h9.2.1.2.1; have h4 := h9.2.1.2.2; have h5 := h9.2.2.1.1; have h6 := h9.2.2.1.2.1; have h7 := h9.2.2.1.2.2; have h8 := h9.2.2.2.1; have h10 := h9.2.2.2.2; have nw9 : (V 35 (nwh V)).toInt = (V 35 (Int32.toNatClampNeg (V 0 11))).toInt := rfl; exfalso; omega), (fun _ => ⟨by decide, by rw [mV_ag (show agr [(0, 70), (0, 76)] [] V15 V562 from (agr.up (agr.up agr.rf hV28 rfl) hV562 rfl)) (by decide), mb9], (show (V562 0 71).toInt = 0 from by (first | exact om_36161e850215 t14.1 pq572 | omega)), (show (V562 0 72).toInt = 0 from by (first | exact om_36161e850215 t14.2 pq573 | omega))⟩), (fun h9 => RJm.ag (bkq (by rw [show V 0 54 = V562 0 54 from ((show agr [(0, 0), (0, 69), (0, 70), (0, 71), (0, 72), (0, 76), (0, 93), (0, 95), (0, 98)] [] V V562 from (agr.up (agr.up (agr.tr (agr.up agr.rf hV6 rfl) ajV15 (by decide) (by decide)) hV28 rfl) hV562 rfl)) 0 54 rfl).symm]; exact h9)).2.2 (agr.d95 (show agr [(0, 0), (0, 69), (0, 70), (0, 71), (0, 72), (0, 76), (0, 93), (0, 95), (0, 98)] [] V V562 from (agr.up (agr.up (agr.tr (agr.up agr.rf hV6 rfl) ajV15 (by decide) (by decide)) hV28 rfl) hV562 rfl)) (show (V562 0 95).toInt = (V 0 95).toInt from by (first | exact om_844449b06c38 fz t13 pq568 | omega))) (by decide))⟩, by rw [ht]; exact hP, va_K.moved hW.alike hK, hD⟩, hS.F ht⟩) hS.2.2 dX12_call_109
                · skip
                  have f574 : ((V 0 54)).toInt = 0 := b_eq rfl (by decide) c541
                  exfalso; (first | exact om_0abcda13baee r516.1 f533 f574 | omega)
              · skip
                have f575 : z534.toInt ≠ 0 := b_neq rfl (by decide) c539
                refine lv_iload hx hb dX12_call_75 (lv_at hl 0 rfl) ?_
                refine lv_if_ne (tgt := 110) hx hb dX12_call_77 (by decide) (fun _ => ?_) (fun q => absurd q (by decide))
                have pq576 : (V28 0 95).toInt = ((V15 0 95)).toInt := congrArg Int32.toInt (up2_k hV28 (by decide))
                have fz577 : (V 0 95).toInt = 0 := r0.2.2.2.2
                have r0578 : RT0 V28 := RT0.ag r0 hMV (show agr [(0, 0), (0, 69), (0, 71), (0, 72), (0, 76), (0, 93), (0, 95), (0, 98)] [] V V28 from (agr.up (agr.tr (agr.up agr.rf hV6 rfl) ajV15 (by decide) (by decide)) hV28 rfl)) ⟨⟨rfl, fun _ => rfl, fun _ => rfl, fun _ => rfl, fun _ => rfl, fun _ => rfl, fun _ => rfl⟩, by decide, by decide, rfl, rfl, fun _ => rfl, fun _ => rfl, fun _ => rfl⟩ (c0k.ag (show agr [(0, 0), (0, 69), (0, 71), (0, 72), (0, 76), (0, 93), (0, 95), (0, 98)] [] V V28 from (agr.up (agr.tr (agr.up agr.rf hV6 rfl) ajV15 (by decide) (by decide)) hV28 rfl)) rfl) (by (first | exact om_36161e850215 t13 pq576 | omega))
                have pq579 : (V28 0 54).toInt = ((V 0 54)).toInt := congrArg Int32.toInt ((up2_k hV28 (by decide)).trans ((ajV15 0 54 rfl).trans (up2_k hV6 (by decide))))
                have rt580 : RT V28 := RT0.rt r0578 (by (first | exact om_0d50ee23e4c9 r516.1 r516.2 f533 pq579 | omega))
                have bq9 := bkq (by omega)
                have br := bq9.2.1
                have bk := bq9.1
                have rj := bq9.2.2
                have rj7 : RJm V28 gB := RJm.ag rj (agr.d95 (show agr [(0, 0), (0, 69), (0, 71), (0, 72), (0, 76), (0, 93), (0, 95), (0, 98)] [] V V28 from (agr.up (agr.tr (agr.up agr.rf hV6 rfl) ajV15 (by decide) (by decide)) hV28 rfl)) (by (first | exact om_844449b06c38 fz t13 pq576 | omega))) (by decide)
                have ln0 : ([] : List Fr).length = 0 := rfl
                have tp0 : totP ([] : List Fr) = 0 := rfl
                have kp1 := i_clamp (x := p1) rfl (by (first | exact om_eafa9039069c f125 | omega))
                have pq581 : (V28 61 (Int32.toNatClampNeg p1)).toInt = ((V 61 (Int32.toNatClampNeg p1))).toInt := congrArg Int32.toInt ((up2_o hV28 (by decide)).trans ((ajV15 61 (Int32.toNatClampNeg p1) rfl).trans (up2_o hV6 (by decide))))
                have r582 : 0 ≤ ((V 61 (Int32.toNatClampNeg p1))).toInt ∧ ((V 61 (Int32.toNatClampNeg p1))).toInt ≤ 23 := hMV 61 (Int32.toNatClampNeg p1)
                have pq583 : (V28 63 (Int32.toNatClampNeg p1)).toInt = ((V 63 (Int32.toNatClampNeg p1))).toInt := congrArg Int32.toInt ((up2_o hV28 (by decide)).trans ((ajV15 63 (Int32.toNatClampNeg p1) rfl).trans (up2_o hV6 (by decide))))
                refine lv_aload_n hx hb dX12_call_110 rfl (lv_at hl 1 rfl) ?_
                refine lv_aload_n hx hb dX12_call_111 rfl (lv_at hl 1 rfl) ?_
                refine lv_iload_n hx hb dX12_call_112 rfl (lv_at hl 3 rfl) ?_
                refine lv_iload_n hx hb dX12_call_113 rfl (lv_at hl 4 rfl) ?_
                refine lv_iload_n hx hb dX12_call_114 rfl (lv_at hl 2 rfl) ?_
                refine lv_iload hx hb dX12_call_115 (lv_at hl 5 rfl) ?_
                have pq584 : (V28 0 65).toInt = ((V 0 65)).toInt := congrArg Int32.toInt ((up2_k hV28 (by decide)).trans ((ajV15 0 65 rfl).trans (up2_k hV6 (by decide))))
                have pq585 : (V28 0 60).toInt = ((V 0 60)).toInt := congrArg Int32.toInt ((up2_k hV28 (by decide)).trans ((ajV15 0 60 rfl).trans (up2_k hV6 (by decide))))
                have pq586 : (V28 0 73).toInt = ((V 0 73)).toInt := congrArg Int32.toInt ((up2_k hV28 (by decide)).trans ((ajV15 0 73 rfl).trans (up2_k hV6 (by decide))))
                have pq587 : (V28 0 76).toInt = 0 := (congrArg Int32.toInt (up2_s hV28)).trans (by decide)
                have pq588 : (V28 0 69).toInt = ((V15 0 69)).toInt := congrArg Int32.toInt (up2_k hV28 (by decide))
                have pq589 : (V28 0 93).toInt = ((V15 0 93)).toInt := congrArg Int32.toInt (up2_k hV28 (by decide))
                have pq590 : (V28 0 98).toInt = ((V15 0 98)).toInt := congrArg Int32.toInt (up2_k hV28 (by decide))
                refine gA_int (gA_runV (As := [.int p1, .int p2, .int p0, .int p3]) (rest := [.ref (ad 0)]) (ci := 12) (q0 := 0) hx hb hml hown hg hP hD hK hS hA hnw hgk (s_callsDT l D ks H.size ad kk V28 L p1 p2 p0 p3 (gB) (grk) (([] : List Fr)) (0) (0) (0) (0) (1) (p1.toInt) ((V 61 (Int32.toNatClampNeg p1)).toInt) (p0.toInt) (p2.toInt) hMV28 (by (first | exact om_674917f71baf r2.2 f125 f222 | omega)) (by (first | exact om_2a620600370f f416 r418.2 f515 | omega)) (by (first | exact om_fd7a8525539c r22.2 t537 pq538 f575 | omega)) rt580 (show (V28 0 65).toInt ≤ (V28 0 60).toInt from by (first | exact om_842ee80c0797 n1 pq584 pq585 | omega)) (show (V28 0 95).toInt ≤ (V28 0 65).toInt from by (first | exact om_b7bc133e65f5 r1.1 t13 pq576 pq584 | omega)) (show (V28 0 73).toInt + (V28 0 95).toInt - (V28 0 65).toInt ≤ 999000 from by (first | exact om_f1e744b7b00e n3 t13 pq576 pq584 pq586 | omega)) (show (V28 0 76).toInt - (V28 0 69).toInt - (V28 0 73).toInt ≤ 1000000000 from by (first | exact om_0dd956f67d11 r3.1 t10 pq586 pq587 pq588 | omega)) (BKm.ag bk (show agr [(0, 0), (0, 69), (0, 71), (0, 72), (0, 76), (0, 93), (0, 95), (0, 98)] [] V V28 from (agr.up (agr.tr (agr.up agr.rf hV6 rfl) ajV15 (by decide) (by decide)) hV28 rfl)) (by decide)) br rj7 (fun h9 => absurd h9 (by decide)) (show (((([] : List Fr)).length : Nat) : Int) ≤ 28 * (V28 0 93).toInt + 28 from by (first | exact om_6099d9e4298c t11 ln0 pq589 | omega)) (show ((totP (([] : List Fr)) : Nat) : Int) ≤ 84 * (V28 0 93).toInt + 84 from by (first | exact om_fc142a606eb8 t11 tp0 pq589 | omega)) (show p1.toInt < (V28 0 60).toInt from by (first | exact om_ad53b8b0928c f222 pq585 | omega)) (show (V28 0 98).toInt + 400 * 10 ≤ 19000 from by (first | exact om_806ced63e85c t12 pq590 | omega)) (show 1 ≤ (V28 63 (Int32.toNatClampNeg p1)).toInt from by (first | exact om_0cc6435ef36f f319 pq583 | omega)) (show (V28 0 93).toInt + 1 = (1) from by (first | exact om_20e9430839ec t11 pq589 | omega)) (show p1.toInt = (p1.toInt) from by (first | exact om_4c2c879c4424 | omega)) (show (V28 61 (Int32.toNatClampNeg p1)).toInt = ((V 61 (Int32.toNatClampNeg p1)).toInt) from by (first | exact om_570b691c1130 pq581 | omega)) (show p0.toInt = (p0.toInt) from by (first | exact om_4c2c879c4424 | omega)) (show p2.toInt = (p2.toInt) from by (first | exact om_4c2c879c4424 | omega))) w2316 w2318 w148 w172 w2319 rfl rfl hdV_yX12_calls ⟨Nat.le_of_ble_eq_true rfl, Nat.le_of_ble_eq_true rfl⟩ rfl hl.1 rfl (Nat.le_of_ble_eq_true rfl) dX12_call_117 ⟨Nat.le_of_ble_eq_true rfl, Nat.le_of_ble_eq_true rfl⟩) hP hD hK hS hA (fun z591 u592 H locs w593 hP hD hK hS => ?_)
                obtain ⟨V609, L610⟩ := u592
                obtain ⟨hMV609, ajV609, axL610, rgz591, t594, t595, t596, t597, t598, t599, t600, t601, t602, t603, t604, t605, t606, t607, t608⟩ := w593
                have axL610 : L = L610 := Eq.symm axL610
                subst axL610
                have hP : va_P D vwCl (mw ad kk ks.1 V609 L) H := hP
                have hD : va_D A (mw ad kk ks.1 V609 L) := hD
                have hMV609 : rgd bM V609 := hMV609
                have ajV609 : agr [(0, 60), (0, 65), (0, 68), (0, 69), (0, 73), (0, 76), (0, 90), (0, 91), (0, 92), (0, 93), (0, 95), (0, 96), (0, 98)] [59, 61, 62, 63, 64, 66, 67, 74, 75, 77, 78, 79, 80, 94, 97] V28 V609 := ajV609
                have agV609 : agr [(0, 0), (0, 60), (0, 65), (0, 68), (0, 69), (0, 70), (0, 71), (0, 72), (0, 73), (0, 76), (0, 90), (0, 91), (0, 92), (0, 93), (0, 95), (0, 96), (0, 98)] [59, 61, 62, 63, 64, 66, 67, 74, 75, 77, 78, 79, 80, 94, 97] V V609 := agV28.tr ajV609 (by decide) (by decide)
                have rgz591 : 0 ≤ z591.toInt ∧ z591.toInt ≤ 2 := rgz591
                have t594 : (V609 0 93).toInt = (V28 0 93).toInt := t594
                have t595 : (V609 0 98).toInt = (V28 0 98).toInt := t595
                have t596 : (V28 0 60).toInt ≤ (V609 0 60).toInt := t596
                have t597 : (V28 0 65).toInt ≤ (V609 0 65).toInt := t597
                have t598 : (V609 0 65).toInt - (V28 0 65).toInt ≤ (V609 0 60).toInt - (V28 0 60).toInt := t598
                have t599 : (V609 0 73).toInt + (V609 0 95).toInt - (V609 0 65).toInt ≤ (V28 0 73).toInt + (V28 0 95).toInt - (V28 0 65).toInt := t599
                have t600 : (V28 0 73).toInt ≤ (V609 0 73).toInt := t600
                have t601 : (V28 0 69).toInt ≤ (V609 0 69).toInt := t601
                have t602 : (V609 0 95).toInt = (V28 0 95).toInt := t602
                have t603 : (V609 0 76).toInt - (V609 0 69).toInt - (V609 0 73).toInt ≤ (V28 0 76).toInt - (V28 0 69).toInt - (V28 0 73).toInt := t603
                have t604 : RT V609 := t604
                have t605 : FRM V28 V609 (-1) := t605
                have t606 : RJm V609 (gB) := t606
                have t607 : PLK V28 V609 (V28 0 98).toInt.toNat := t607
                have t608 : DPc (gB) (mV V28 (0) (0) (0), (0), Fcall0 (1) (p1.toInt) ((V 61 (Int32.toNatClampNeg p1)).toInt) (p0.toInt) (p2.toInt) p3 :: (([] : List Fr))) V609 (([] : List Fr)) z591.toInt (V609 0 96) (24 * (10 - (V28 0 93).toInt)) := t608
                have r611 : 0 ≤ ((V609 0 93)).toInt ∧ ((V609 0 93)).toInt ≤ 10 := hMV609 0 93
                have r612 : 0 ≤ ((V609 0 98)).toInt ∧ ((V609 0 98)).toInt ≤ 20000 := hMV609 0 98
                have r613 : 0 ≤ ((V609 0 60)).toInt ∧ ((V609 0 60)).toInt ≤ 300 := hMV609 0 60
                have r614 : 0 ≤ ((V609 0 65)).toInt ∧ ((V609 0 65)).toInt ≤ 1000000 := hMV609 0 65
                have r615 : 0 ≤ ((V609 0 73)).toInt ∧ ((V609 0 73)).toInt ≤ 1000000 := hMV609 0 73
                have r616 : 0 ≤ ((V609 0 95)).toInt ∧ ((V609 0 95)).toInt ≤ 300 := hMV609 0 95
                have r617 : 0 ≤ ((V609 0 69)).toInt ∧ ((V609 0 69)).toInt ≤ 3000 := hMV609 0 69
                have r618 : 0 ≤ ((V609 0 76)).toInt ∧ ((V609 0 76)).toInt ≤ 2000000000 := hMV609 0 76
                have pq619 : (V609 0 54).toInt = ((V 0 54)).toInt := congrArg Int32.toInt ((ajV609 0 54 rfl).trans ((up2_k hV28 (by decide)).trans ((ajV15 0 54 rfl).trans (up2_k hV6 (by decide)))))
                have r0620 : RT0 V609 := RT.r0 t604 (by (first | exact om_0d50ee23e4c9 r516.1 r516.2 f533 pq619 | omega)) (by (first | exact om_d2e622dc9730 t13 pq576 t602 | omega))
                refine gA_int (gA_runV (As := [.int z591]) (rest := []) (ci := 12) (q0 := 0) hx hb hml hown hg hP hD hK hS hA hnw hgk (s_ends3 l D ks H.size ad kk V609 L z591 hMV609 (by (first | exact om_8c285ac91b81 rgz591.1 rgz591.2 | omega))) w2332 w2334 w152 w172 w2335 rfl rfl hdV_yX12_ends ⟨Nat.le_of_ble_eq_true rfl, Nat.le_of_ble_eq_true rfl⟩ rfl hl.1 rfl (Nat.le_of_ble_eq_true rfl) dX12_call_120 ⟨Nat.le_of_ble_eq_true rfl, Nat.le_of_ble_eq_true rfl⟩) hP hD hK hS hA (fun z621 u622 H locs w623 hP hD hK hS => ?_)
                obtain ⟨V625, L626⟩ := u622
                obtain ⟨hMV625, ajV625, axL626, rgz621, t624⟩ := w623
                have axL626 : L = L626 := Eq.symm axL626
                subst axL626
                have hP : va_P D vwCl (mw ad kk ks.1 V625 L) H := hP
                have hD : va_D A (mw ad kk ks.1 V625 L) := hD
                have hMV625 : rgd bM V625 := hMV625
                have ajV625 : agr [(0, 70), (0, 71), (0, 72)] [] V609 V625 := ajV625
                have agV625 : agr [(0, 0), (0, 60), (0, 65), (0, 68), (0, 69), (0, 70), (0, 71), (0, 72), (0, 73), (0, 76), (0, 90), (0, 91), (0, 92), (0, 93), (0, 95), (0, 96), (0, 98)] [59, 61, 62, 63, 64, 66, 67, 74, 75, 77, 78, 79, 80, 94, 97] V V625 := agV609.tr ajV625 (by decide) (by decide)
                have rgz621 : 0 ≤ z621.toInt ∧ z621.toInt ≤ 1 := rgz621
                have t624 : (z621.toInt = 1 ∧ z591.toInt = 0 ∧ (V625 0 71).toInt = 0 ∧ (V625 0 72).toInt = 0) ∨ (z621.toInt = 0 ∧ z591.toInt = 1 ∧ (V625 0 71).toInt = (V609 0 90).toInt ∧ (V625 0 72).toInt = (V609 0 91).toInt) ∨ (z621.toInt = 0 ∧ z591.toInt = 2 ∧ (V625 0 71).toInt = 0 ∧ (V625 0 72).toInt = 0) := t624
                refine lv_if_eq (tgt := 133) hx hb dX12_call_123 (by decide) (fun c627 => ?_) (fun c627 => ?_)
                · skip
                  have f628 : z621.toInt = 0 := b_eq rfl (by decide) c627
                  refine lv_iconst (v := 0) hx hb dX12_call_133 (by decide) ?_
                  have pq629 : (V625 0 65).toInt = ((V609 0 65)).toInt := congrArg Int32.toInt (ajV625 0 65 rfl)
                  have pq630 : (V625 0 60).toInt = ((V609 0 60)).toInt := congrArg Int32.toInt (ajV625 0 60 rfl)
                  have pq631 : (V625 0 73).toInt = ((V609 0 73)).toInt := congrArg Int32.toInt (ajV625 0 73 rfl)
                  have pq632 : (V625 0 76).toInt = ((V609 0 76)).toInt := congrArg Int32.toInt (ajV625 0 76 rfl)
                  have pq633 : (V625 0 69).toInt = ((V609 0 69)).toInt := congrArg Int32.toInt (ajV625 0 69 rfl)
                  have pq634 : (V625 0 95).toInt = ((V609 0 95)).toInt := congrArg Int32.toInt (ajV625 0 95 rfl)
                  have fz635 : (V609 0 95).toInt = 0 := r0620.2.2.2.2
                  have r0636 : RT0 V625 := RT0.ag r0620 hMV609 (show agr [(0, 70), (0, 71), (0, 72)] [] V609 V625 from (agr.tr agr.rf ajV625 (by decide) (by decide))) ⟨⟨rfl, fun _ => rfl, fun _ => rfl, fun _ => rfl, fun _ => rfl, fun _ => rfl, fun _ => rfl⟩, by decide, by decide, rfl, rfl, fun _ => rfl, fun _ => rfl, fun _ => rfl⟩ (c0k.ag (show agr [(0, 70), (0, 71), (0, 72)] [] V609 V625 from (agr.tr agr.rf ajV625 (by decide) (by decide))) rfl) (by (first | exact om_c5d3108a094e t13 pq576 t602 pq634 | omega))
                  have gx637 : GEo gB (mU (mV V 0 0 0) 0 1 0, 0, [Fcall0 1 p1.toInt (V 61 (Int32.toNatClampNeg p1)).toInt p0.toInt p2.toInt p3]) V625 (Int32.toInt 0) (0) := by
                    have dp9 := t608
                    rw [show (mV V28 0 0 0, (0 : Int32), Fcall0 1 p1.toInt (V 61 (Int32.toNatClampNeg p1)).toInt p0.toInt p2.toInt p3 :: ([] : List Fr)) = (mU (mV V 0 0 0) 0 1 0, 0, [Fcall0 1 p1.toInt (V 61 (Int32.toNatClampNeg p1)).toInt p0.toInt p2.toInt p3]) from by rw [mV_ag (show agr [(0, 76)] [] V15 V28 from (agr.up agr.rf hV28 rfl)) (by decide), mb9]] at dp9
                    rcases (show z591.toInt = 0 ∨ z591.toInt = 1 ∨ z591.toInt = 2 from by (first | exact om_e837ad917e1d rgz591.1 rgz591.2 | omega)) with q9 | q9 | q9
                    · obtain ⟨t9, k9, h9⟩ := dp9.e0 q9
                      exact ⟨1, t9, k9, _, by rw [mV_ag (show agr [(0, 70), (0, 71), (0, 72)] [] V609 V625 from (agr.tr agr.rf ajV625 (by decide) (by decide))) (by decide)]; exact h9, Or.inl ⟨rfl, by exfalso; omega, by omega, by omega⟩⟩
                    · obtain ⟨b9, a9, h9⟩ := dp9.e1 q9
                      exact ⟨2, _, _, a9, by rw [mV_ag (show agr [(0, 70), (0, 71), (0, 72)] [] V609 V625 from (agr.tr agr.rf ajV625 (by decide) (by decide))) (by decide)]; exact h9, Or.inr (Or.inl ⟨rfl, by decide, by omega, by omega, b9.1⟩)⟩
                    · obtain ⟨a9, t9, k9, h9⟩ := dp9.e2 q9
                      exact ⟨3, t9, k9, a9, by rw [mV_ag (show agr [(0, 70), (0, 71), (0, 72)] [] V609 V625 from (agr.tr agr.rf ajV625 (by decide) (by decide))) (by decide)]; exact h9, Or.inr (Or.inr ⟨rfl, by decide, by omega, by omega⟩)⟩
                  have pq638 : (V28 56 (Int32.toNatClampNeg p0)).toInt = ((V 56 (Int32.toNatClampNeg p0))).toInt := congrArg Int32.toInt ((up2_o hV28 (by decide)).trans ((ajV15 56 (Int32.toNatClampNeg p0) rfl).trans (up2_o hV6 (by decide))))
                  have rj639 : RJm V625 gB := RJm.ag t606 (show agr [(0, 70), (0, 71), (0, 72)] [] V609 V625 from (agr.tr agr.rf ajV625 (by decide) (by decide))) (by decide)
                  exact W.iret (v := 0) hx hb hr (fun t ht hW => ⟨⟨0, (V625, L), rfl, ⟨hMV625, agV625, rfl, (show (V625 0 65).toInt ≤ (V625 0 60).toInt from by (first | exact om_90f28cb8bc30 n1 pq584 pq585 t598 pq629 pq630 | omega)), (show (V625 0 73).toInt - (V625 0 65).toInt ≤ (V 0 73).toInt - (V 0 65).toInt + 300 from by (first | exact om_8c5a66363f6c pq584 pq586 t599 t602 pq629 pq631 | omega)), (show (V625 0 76).toInt - (V625 0 69).toInt - (V625 0 73).toInt ≤ (V 0 76).toInt - (V 0 69).toInt - (V 0 73).toInt + 3000 from by (first | exact om_f703b94af139 r4.1 r5.2 t10 pq586 pq587 pq588 t603 pq631 pq632 pq633 | omega)), r0636, (fun _ => gx637), (fun h9 => absurd (show (V 0 54).toInt = 1 ∧ (0 ≤ p0.toInt ∧ p0.toInt < (V 0 55).toInt ∧ (V 56 (Int32.toNatClampNeg p0)).toInt = 1) ∧ ((0 ≤ p1.toInt ∧ p1.toInt < (V 0 60).toInt ∧ (V 63 (Int32.toNatClampNeg p1)).toInt = 1) ∧ 0 ≤ p2.toInt ∧ p2.toInt < (V 35 (nwh V)).toInt) from ⟨by omega, ⟨by omega, by omega, by omega⟩, ⟨by omega, by omega, by omega⟩, by omega, (show _ < (V 35 (Int32.toNatClampNeg (V 0 11))).toInt from by omega)⟩) h9), (fun _ => rj639)⟩, by rw [ht]; exact hP, va_K.moved hW.alike hK, hD⟩, hS.F ht⟩) hS.2.2 dX12_call_134
                · skip
                  have f640 : z621.toInt ≠ 0 := b_neq rfl (by decide) c627
                  refine lv_aload_n hx hb dX12_call_126 rfl (lv_at hl 1 rfl) ?_
                  refine va_get (D := D) (ci := 12) (v := .int (V625 0 96)) (C := RX12) (T := TX12) (N := 100) hx hb hg inX12 hown hK hP 0 rfl rfl 96 (by decide) (hg _ w1802) (fun _ h9 => h9) rfl dX12_call_127 ?_
                  refine g_top (v := (V609 0 96)) (ajV625 0 96 rfl) ?_
                  refine lv_goto (tgt := 134) hx hb dX12_call_130 (by decide) ?_
                  have pq641 : (V625 0 65).toInt = ((V609 0 65)).toInt := congrArg Int32.toInt (ajV625 0 65 rfl)
                  have pq642 : (V625 0 60).toInt = ((V609 0 60)).toInt := congrArg Int32.toInt (ajV625 0 60 rfl)
                  have pq643 : (V625 0 73).toInt = ((V609 0 73)).toInt := congrArg Int32.toInt (ajV625 0 73 rfl)
                  have pq644 : (V625 0 76).toInt = ((V609 0 76)).toInt := congrArg Int32.toInt (ajV625 0 76 rfl)
                  have pq645 : (V625 0 69).toInt = ((V609 0 69)).toInt := congrArg Int32.toInt (ajV625 0 69 rfl)
                  have pq646 : (V625 0 95).toInt = ((V609 0 95)).toInt := congrArg Int32.toInt (ajV625 0 95 rfl)
                  have fz647 : (V609 0 95).toInt = 0 := r0620.2.2.2.2
                  have r0648 : RT0 V625 := RT0.ag r0620 hMV609 (show agr [(0, 70), (0, 71), (0, 72)] [] V609 V625 from (agr.tr agr.rf ajV625 (by decide) (by decide))) ⟨⟨rfl, fun _ => rfl, fun _ => rfl, fun _ => rfl, fun _ => rfl, fun _ => rfl, fun _ => rfl⟩, by decide, by decide, rfl, rfl, fun _ => rfl, fun _ => rfl, fun _ => rfl⟩ (c0k.ag (show agr [(0, 70), (0, 71), (0, 72)] [] V609 V625 from (agr.tr agr.rf ajV625 (by decide) (by decide))) rfl) (by (first | exact om_c5d3108a094e t13 pq576 t602 pq646 | omega))
                  have gx649 : GEo gB (mU (mV V 0 0 0) 0 1 0, 0, [Fcall0 1 p1.toInt (V 61 (Int32.toNatClampNeg p1)).toInt p0.toInt p2.toInt p3]) V625 (((V609 0 96)).toInt) (0) := by
                    have dp9 := t608
                    rw [show (mV V28 0 0 0, (0 : Int32), Fcall0 1 p1.toInt (V 61 (Int32.toNatClampNeg p1)).toInt p0.toInt p2.toInt p3 :: ([] : List Fr)) = (mU (mV V 0 0 0) 0 1 0, 0, [Fcall0 1 p1.toInt (V 61 (Int32.toNatClampNeg p1)).toInt p0.toInt p2.toInt p3]) from by rw [mV_ag (show agr [(0, 76)] [] V15 V28 from (agr.up agr.rf hV28 rfl)) (by decide), mb9]] at dp9
                    rcases (show z591.toInt = 0 ∨ z591.toInt = 1 ∨ z591.toInt = 2 from by (first | exact om_e837ad917e1d rgz591.1 rgz591.2 | omega)) with q9 | q9 | q9
                    · obtain ⟨t9, k9, h9⟩ := dp9.e0 q9
                      exact ⟨1, t9, k9, _, by rw [mV_ag (show agr [(0, 70), (0, 71), (0, 72)] [] V609 V625 from (agr.tr agr.rf ajV625 (by decide) (by decide))) (by decide)]; exact h9, Or.inl ⟨rfl, by omega, by omega, by omega⟩⟩
                    · obtain ⟨b9, a9, h9⟩ := dp9.e1 q9
                      exact ⟨2, _, _, a9, by rw [mV_ag (show agr [(0, 70), (0, 71), (0, 72)] [] V609 V625 from (agr.tr agr.rf ajV625 (by decide) (by decide))) (by decide)]; exact h9, Or.inr (Or.inl ⟨rfl, by exfalso; omega, by omega, by omega, b9.1⟩)⟩
                    · obtain ⟨a9, t9, k9, h9⟩ := dp9.e2 q9
                      exact ⟨3, t9, k9, a9, by rw [mV_ag (show agr [(0, 70), (0, 71), (0, 72)] [] V609 V625 from (agr.tr agr.rf ajV625 (by decide) (by decide))) (by decide)]; exact h9, Or.inr (Or.inr ⟨rfl, by exfalso; omega, by omega, by omega⟩)⟩
                  have pq650 : (V28 56 (Int32.toNatClampNeg p0)).toInt = ((V 56 (Int32.toNatClampNeg p0))).toInt := congrArg Int32.toInt ((up2_o hV28 (by decide)).trans ((ajV15 56 (Int32.toNatClampNeg p0) rfl).trans (up2_o hV6 (by decide))))
                  have rj651 : RJm V625 gB := RJm.ag t606 (show agr [(0, 70), (0, 71), (0, 72)] [] V609 V625 from (agr.tr agr.rf ajV625 (by decide) (by decide))) (by decide)
                  exact W.iret (v := (V609 0 96)) hx hb hr (fun t ht hW => ⟨⟨(V609 0 96), (V625, L), rfl, ⟨hMV625, agV625, rfl, (show (V625 0 65).toInt ≤ (V625 0 60).toInt from by (first | exact om_90f28cb8bc30 n1 pq584 pq585 t598 pq641 pq642 | omega)), (show (V625 0 73).toInt - (V625 0 65).toInt ≤ (V 0 73).toInt - (V 0 65).toInt + 300 from by (first | exact om_8c5a66363f6c pq584 pq586 t599 t602 pq641 pq643 | omega)), (show (V625 0 76).toInt - (V625 0 69).toInt - (V625 0 73).toInt ≤ (V 0 76).toInt - (V 0 69).toInt - (V 0 73).toInt + 3000 from by (first | exact om_f703b94af139 r4.1 r5.2 t10 pq586 pq587 pq588 t603 pq643 pq644 pq645 | omega)), r0648, (fun _ => gx649), (fun h9 => absurd (show (V 0 54).toInt = 1 ∧ (0 ≤ p0.toInt ∧ p0.toInt < (V 0 55).toInt ∧ (V 56 (Int32.toNatClampNeg p0)).toInt = 1) ∧ ((0 ≤ p1.toInt ∧ p1.toInt < (V 0 60).toInt ∧ (V 63 (Int32.toNatClampNeg p1)).toInt = 1) ∧ 0 ≤ p2.toInt ∧ p2.toInt < (V 35 (nwh V)).toInt) from ⟨by omega, ⟨by omega, by omega, by omega⟩, ⟨by omega, by omega, by omega⟩, by omega, (show _ < (V 35 (Int32.toNatClampNeg (V 0 11))).toInt from by omega)⟩) h9), (fun _ => rj651)⟩, by rw [ht]; exact hP, va_K.moved hW.alike hK, hD⟩, hS.F ht⟩) hS.2.2 dX12_call_134
