/-! the next candidate, by the class's bits -/
theorem find_so {it d : Nat} : ∀ (l : List Nat), l.Pairwise (· < ·) → l.find? (fun e => decide (it ≤ e ∧ e < 24)) = some d → (d ∈ l ∧ it ≤ d ∧ d < 24) ∧ ∀ e, e ∈ l → it ≤ e → d ≤ e
  | [], _, h => by cases h
  | a :: t, p, h => by
    have q := List.pairwise_cons.mp p
    by_cases z : it ≤ a ∧ a < 24
    · have h : (match decide (it ≤ a ∧ a < 24) with | true => some a | false => t.find? (fun e => decide (it ≤ e ∧ e < 24))) = some d := h
      rw [decide_eq_true z] at h
      have e : a = d := Option.some.inj h
      rw [← e]
      refine ⟨⟨List.mem_cons_self, z⟩, fun x hx _ => ?_⟩
      rcases List.mem_cons.mp hx with y | y
      · omega
      · exact Nat.le_of_lt (q.1 x y)
    · have h : (match decide (it ≤ a ∧ a < 24) with | true => some a | false => t.find? (fun e => decide (it ≤ e ∧ e < 24))) = some d := h
      rw [decide_eq_false z] at h
      obtain ⟨⟨m1, m2⟩, m3⟩ := find_so t q.2 h
      refine ⟨⟨List.mem_cons_of_mem _ m1, m2⟩, fun x hx h1 => ?_⟩
      rcases List.mem_cons.mp hx with y | y
      · have w := q.1 d m1
        exact absurd (show it ≤ a ∧ a < 24 from ⟨by omega, by omega⟩) z
      · exact m3 x y h1
theorem SBL.sh {x z : Int32} {l : List Nat} {it : Nat} (h : SBL x l) (e : z.toInt.toNat = x.toInt.toNat >>> it) (hz : 0 ≤ z.toInt) : (l.find? (fun d => decide (it ≤ d ∧ d < 24)) = none ∧ z.toInt = 0) ∨ ∃ d, l.find? (fun d => decide (it ≤ d ∧ d < 24)) = some d ∧ (it ≤ d ∧ d < 24) ∧ LOB z.toInt.toNat (d - it) ∧ z.toInt ≠ 0 := by
  cases q : l.find? (fun d => decide (it ≤ d ∧ d < 24)) with
  | none =>
    refine Or.inl ⟨rfl, ?_⟩
    have n := List.find?_eq_none.mp q
    have w : z.toInt.toNat = 0 := by
      refine Nat.eq_of_testBit_eq (fun i => ?_)
      rw [e, Nat.testBit_shiftRight, Nat.zero_testBit, ← bt_n h.1]
      cases y : bt x (it + i)
      · rfl
      · rcases Nat.lt_or_ge (it + i) 24 with g | g
        · have m := (h.2.1 _ g).mp y
          exact absurd (decide_eq_true (show it ≤ it + i ∧ it + i < 24 from ⟨by omega, g⟩)) (n _ m)
        · have o : x.toInt.toNat < 16777216 := by have := h.1; omega
          rw [bt_n h.1, Nat.testBit_lt_two_pow (Nat.lt_of_lt_of_le (show x.toInt.toNat < 2 ^ 24 from o) (Nat.pow_le_pow_right (by decide) g))] at y
          exact absurd y Bool.false_ne_true
    omega
  | some d =>
    obtain ⟨⟨m1, m2, m3⟩, m4⟩ := find_so l h.2.2.1 q
    have b : (x.toInt.toNat >>> it).testBit (d - it) = true := by
      rw [Nat.testBit_shiftRight, show it + (d - it) = d from by omega, ← bt_n h.1]
      exact (h.2.1 d m3).mpr m1
    refine Or.inr ⟨d, rfl, ⟨m2, m3⟩, ⟨?_, fun i hi => ?_⟩, ?_⟩
    · rw [e]
      exact b
    · rw [e, Nat.testBit_shiftRight, ← bt_n h.1]
      cases y : bt x (it + i)
      · rfl
      · have m := (h.2.1 _ (by omega)).mp y
        have := m4 _ m (by omega)
        omega
    · intro w
      rw [← e, show z.toInt.toNat = 0 from by omega, Nat.zero_testBit] at b
      exact absurd b Bool.false_ne_true
/-- what is left of a set behind a shift -/
def SHx (l : List Nat) (it : Nat) (z : Int32) : Prop := (l.find? (fun d => decide (it ≤ d ∧ d < 24)) = none ∧ z.toInt = 0) ∨ ∃ d, l.find? (fun d => decide (it ≤ d ∧ d < 24)) = some d ∧ (it ≤ d ∧ d < 24) ∧ LOB z.toInt.toNat (d - it) ∧ z.toInt ≠ 0
theorem SBL.shx {x z : Int32} {l : List Nat} {it : Nat} (h : SBL x l) (e : z.toInt.toNat = x.toInt.toNat >>> it) (hz : 0 ≤ z.toInt) : SHx l it z := SBL.sh h e hz
theorem SHx.n {z : Int32} {l : List Nat} {it : Nat} (h : SHx l it z) (e : z.toInt = 0) : l.find? (fun d => decide (it ≤ d ∧ d < 24)) = none := by
  rcases h with h | ⟨d, h1, h2, h3, h4⟩
  · exact h.1
  · exact absurd e h4
theorem SHx.y {z : Int32} {l : List Nat} {it : Nat} (h : SHx l it z) (e : z.toInt ≠ 0) : ∃ d, l.find? (fun d => decide (it ≤ d ∧ d < 24)) = some d ∧ (it ≤ d ∧ d < 24) ∧ LOB z.toInt.toNat (d - it) := by
  rcases h with h | ⟨d, h1, h2, h3, h4⟩
  · exact absurd h.2 e
  · exact ⟨d, h1, h2, h3⟩
theorem SBL.z : SBL 0 [] := ⟨by decide, fun g _ => ⟨fun h => by rw [b_0] at h; exact absurd h Bool.false_ne_true, fun h => absurd h List.not_mem_nil⟩, List.Pairwise.nil, fun g h => absurd h List.not_mem_nil⟩
theorem ushr_s {x y z : Int32} (e : z = (x.toUInt32 >>> (y.toUInt32 &&& Int32.toUInt32 31)).toInt32) (hx : 0 ≤ x.toInt) {k : Nat} (hk : y.toInt = (k : Int)) (h32 : k < 32) : z.toInt.toNat = x.toInt.toNat >>> k ∧ 0 ≤ z.toInt ∧ z.toInt ≤ x.toInt := by
  obtain ⟨a, b⟩ := ushr_n e hx hk h32
  refine ⟨?_, by rw [a]; exact Int.natCast_nonneg _, by rw [a, ← b]; exact Int.ofNat_le.mpr (Nat.div_le_self _ _)⟩
  rw [Nat.shiftRight_eq_div_pow, a, Int.toNat_natCast, show x.toInt.toNat = x.toBitVec.toNat from by omega]
theorem nxC_c {B : Bk} {c ps it d : Nat} (h : ps < bN B c) (h8 : ps < 8) (e : (if bK B c ps = 1 then [] else bC B c ps).find? (fun d => decide (it ≤ d ∧ d < 24)) = some d) : nxC B c 9 ps it = some (ps, d) := by
  show nxC B c (8 + 1) ps it = _
  unfold nxC
  rw [if_neg (by omega), e]
theorem BKc.sv {V : Vf} {b : Nat} {B : Bk} (h : BKc V b B) : svc V b (B.1.2.1 1).length = svB B := by
  funext i
  unfold svc svB
  by_cases q : i < (B.1.2.1 1).length
  · rw [if_pos q, if_pos q, h.2.2.2.2.1 i q]
  · rw [if_neg q, if_neg q]
theorem agr_24 {V W : Vf} (q : agr [] [24] V W) {c k : Nat} (h : c ≠ 24) : W c k = V c k := q c k (by
  unfold wrL
  rw [Bool.or_eq_false_iff]
  refine ⟨rfl, ?_⟩
  rw [← Bool.not_eq_true]
  intro z
  have y := List.contains_iff_mem.mp z
  simp only [List.mem_cons, List.not_mem_nil, or_false] at y
  exact h y)
theorem ab_y {B : Bk} {m : Mm} {o c pl : Int} (h : m 0 6 = 2) (h1 : bS B c.toNat ≠ 3) (h2 : m 0 9 ≠ 12 ∧ m 0 9 ≠ 13 ∧ m 0 9 ≠ 16) : mAb B m o c pl = mU (mU m 3 o.toNat 2) 8 (24 * pl.toNat + c.toNat) 1 := if_pos ⟨h, h1, h2.1, h2.2.1, h2.2.2⟩
theorem ab_n {B : Bk} {m : Mm} {o c pl : Int} (h : ¬ (m 0 6 = 2 ∧ bS B c.toNat ≠ 3 ∧ m 0 9 ≠ 12 ∧ m 0 9 ≠ 13 ∧ m 0 9 ≠ 16)) : mAb B m o c pl = mU m 3 o.toNat 2 := if_neg h
/-! one more is joined -/
section JN9s
variable {V W v0 v1 v2 v3 : Vf} {ow : Nat → Nat} {q n : Nat} {v : Int} {l : List Int} {lk : Int}
theorem CHN.nx (h1 : l ≠ []) (h2 : CHN V ow q l lk) (hn : (V 32 lk.toNat).toInt ≠ -1) : ∃ l3, l3 ≠ [] ∧ CHN V ow q l3 (V 32 lk.toNat).toInt ∧ lstK V l lk = lstK V l3 (V 32 lk.toNat).toInt ∧ l3.length + 1 = l.length := by
  cases l with
  | nil => exact absurd rfl h1
  | cons x l3 =>
    obtain ⟨_, _, h4⟩ := h2
    cases l3 with
    | nil => exact absurd h4 hn
    | cons y l4 => exact ⟨y :: l4, (fun e => by cases e), h4, rfl, rfl⟩
theorem CHN.ed (h1 : l ≠ []) (h2 : CHN V ow q l lk) (hn : (V 32 lk.toNat).toInt = -1) : lstK V l lk = lk := by
  cases l with
  | nil => exact absurd rfl h1
  | cons x l3 =>
    obtain ⟨_, _, h4⟩ := h2
    cases l3 with
    | nil => rfl
    | cons y l4 =>
      have h5 := h4.1.1
      omega
def JN9 (V W : Vf) (q n : Nat) (v : Int) (l : List Int) : Prop := (W 3 15).toInt = (n : Int) + 1 ∧ (∀ i, i < n → W 31 i = V 31 i) ∧ (W 31 n).toInt = v ∧ (W 32 n).toInt = -1 ∧ (((V 30 q).toInt = -1 ∧ (W 30 q).toInt = (n : Int) ∧ ∀ i, i < n → W 32 i = V 32 i) ∨ ((V 30 q).toInt ≠ -1 ∧ W 30 q = V 30 q ∧ ∃ last : Nat, lstK V l (V 30 q).toInt = (last : Int) ∧ (W 32 last).toInt = (n : Int) ∧ ∀ i, i < n → i ≠ last → W 32 i = V 32 i)) ∧ (∀ x, x ≠ q → W 30 x = V 30 x) ∧ ∀ c j, c ≠ 30 → c ≠ 31 → c ≠ 32 → ¬ (c = 3 ∧ j = 15) → W c j = V c j
theorem JN9.new {p z y : Int32} (g : ∀ i, i < n → v0 31 i = V 31 i ∧ v0 32 i = V 32 i) (g0 : ∀ c j, c ≠ 31 → c ≠ 32 → v0 c j = V c j) (h1 : v1 = up2 v0 31 n p) (h2 : v2 = up2 v1 32 n (-1)) (h3 : v3 = up2 v2 30 q y) (h4 : W = up2 v3 3 15 z) (ep : p.toInt = v) (ey : y.toInt = (n : Int)) (ez : z.toInt = (n : Int) + 1) (e : (V 30 q).toInt = -1) : JN9 V W q n v l := by
  refine ⟨by rw [up2_s h4]; exact ez, fun i hi => ?_, ?_, ?_, Or.inl ⟨e, ?_, fun i hi => ?_⟩, fun x hx => ?_, fun c j a1 a2 a3 a4 => ?_⟩
  · rw [up2_o h4 (by decide), up2_o h3 (by decide), up2_o h2 (by decide), up2_k h1 (by omega)]
    exact (g i hi).1
  · rw [up2_o h4 (by decide), up2_o h3 (by decide), up2_o h2 (by decide), up2_s h1]
    exact ep
  · rw [up2_o h4 (by decide), up2_o h3 (by decide), up2_s h2]
    decide
  · rw [up2_o h4 (by decide), up2_s h3]
    exact ey
  · rw [up2_o h4 (by decide), up2_o h3 (by decide), up2_k h2 (by omega), up2_o h1 (by decide)]
    exact (g i hi).2
  · rw [up2_o h4 (by decide), up2_k h3 hx, up2_o h2 (by decide), up2_o h1 (by decide)]
    exact g0 30 x (by decide) (by decide)
  · rw [h4, up2_pl (by omega), h3, up2_pl (by omega), h2, up2_pl (by omega), h1, up2_pl (by omega)]
    exact g0 c j a2 a3
theorem JN9.old {p z y : Int32} {last : Nat} (g : ∀ i, i < n → v0 31 i = V 31 i ∧ v0 32 i = V 32 i) (g0 : ∀ c j, c ≠ 31 → c ≠ 32 → v0 c j = V c j) (h1 : v1 = up2 v0 31 n p) (h2 : v2 = up2 v1 32 n (-1)) (h3 : v3 = up2 v2 32 last y) (h4 : W = up2 v3 3 15 z) (ep : p.toInt = v) (ey : y.toInt = (n : Int)) (ez : z.toInt = (n : Int) + 1) (e : (V 30 q).toInt ≠ -1) (el : lstK V l (V 30 q).toInt = (last : Int)) (hl : last < n) : JN9 V W q n v l := by
  refine ⟨by rw [up2_s h4]; exact ez, fun i hi => ?_, ?_, ?_, Or.inr ⟨e, ?_, last, el, ?_, fun i hi hn => ?_⟩, fun x _ => ?_, fun c j a1 a2 a3 a4 => ?_⟩
  · rw [up2_o h4 (by decide), up2_o h3 (by decide), up2_o h2 (by decide), up2_k h1 (by omega)]
    exact (g i hi).1
  · rw [up2_o h4 (by decide), up2_o h3 (by decide), up2_o h2 (by decide), up2_s h1]
    exact ep
  · rw [up2_o h4 (by decide), up2_k h3 (by omega), up2_s h2]
    decide
  · rw [up2_o h4 (by decide), up2_o h3 (by decide), up2_o h2 (by decide), up2_o h1 (by decide)]
    exact g0 30 q (by decide) (by decide)
  · rw [up2_o h4 (by decide), up2_s h3]
    exact ey
  · rw [up2_o h4 (by decide), up2_k h3 hn, up2_k h2 (by omega), up2_o h1 (by decide)]
    exact (g i hi).2
  · rw [up2_o h4 (by decide), up2_o h3 (by decide), up2_o h2 (by decide), up2_o h1 (by decide)]
    exact g0 30 x (by decide) (by decide)
  · rw [h4, up2_pl (by omega), h3, up2_pl (by omega), h2, up2_pl (by omega), h1, up2_pl (by omega)]
    exact g0 c j a2 a3
theorem lnz_g {k : Nat} (h : v0 = lnz V k) (hk : n ≤ k) : (∀ i, i < n → v0 31 i = V 31 i ∧ v0 32 i = V 32 i) ∧ ∀ c j, c ≠ 31 → c ≠ 32 → v0 c j = V c j :=
  ⟨fun i hi => by rw [h, lnz_31, lnz_32, if_pos (by omega), if_pos (by omega)]; exact ⟨rfl, rfl⟩, fun c j a1 a2 => by rw [h, lnz_o ⟨a1, a2⟩]⟩
theorem rf_g : (∀ i, i < n → V 31 i = V 31 i ∧ V 32 i = V 32 i) ∧ ∀ c j, c ≠ 31 → c ≠ 32 → V c j = V c j := ⟨fun _ _ => ⟨rfl, rfl⟩, fun _ _ _ _ => rfl⟩
end JN9s
theorem nxC_lt {B : Bk} {c : Nat} : ∀ (f ps it : Nat) {p d : Nat}, nxC B c f ps it = some (p, d) → d < nC B
  | 0, _, _, _, _, h => by cases h
  | f + 1, ps, it, p, d, h => by
    unfold nxC at h
    split at h
    · cases h
    · split at h
      · rename_i d2 e
        cases h
        have m := List.mem_of_find?_eq_some e
        by_cases q : bK B c ps = 1
        · rw [if_pos q] at m
          cases m
        · rw [if_neg q] at m
          exact clF_lt m
      · exact nxC_lt f _ _ h
theorem jl_len {m : Mm} {q : Nat} : (jl m q).length = (m 6 q).toNat := by
  unfold jl
  rw [List.length_map, List.length_range]
theorem mJn_o {m : Mm} {o k x j : Nat} {v : Int} (h : x ≠ 6) (h7 : x ≠ 7) : mJoin m o k v x j = m x j := by
  unfold mJoin
  rw [mU_o _ _ (by omega), mU_o _ _ (by omega)]


abbrev r_x_spoil9 : Room := { frames := 0, cells := 0, slots := 0, locals := 0 }
abbrev q_x_spoil9 (D : va_G) (ks : KS) (ad : Nat → Nat) (kk : Nat → ClassId) (V : Vf) (L : Lf) (Z : XZ) (p0 : Int32) (p1 : Int32) (A : Nat → Prop) : Array Value → State → Outcome → State → Prop := va_Qv (fun (u : Vf × Lf) => rgd bX u.1 ∧ agr [] [24] V u.1 ∧ u.2 = L ∧ ((∀ j : Nat, j < 24 → (bt (u.1 24 (Int32.toNatClampNeg p0)) j = true ↔ (j = Int32.toNatClampNeg p1 ∨ bt (V 24 (Int32.toNatClampNeg p0)) j = true))) ∧ ∀ x : Nat, x ≠ Int32.toNatClampNeg p0 → u.1 24 x = V 24 x)) (fun u t => gq D A (xw ad kk u.1 u.2 Z) (xty kk Z) t) A
set_option maxHeartbeats 4000000 in
set_option maxRecDepth 100000 in
theorem x_spoil9 (l : Launch) (D : va_G) (ks : KS) (sz : Nat) (ad : Nat → Nat) (kk : Nat → ClassId) (V : Vf) (L : Lf) (Z : XZ) (p0 : Int32) (p1 : Int32) (hMV : rgd bX V) (rg_p0 : 0 ≤ p0.toInt ∧ p0.toInt ≤ 39) (sp0 : 0 ≤ p1.toInt) (sp1 : p1.toInt ≤ 23)  : Met l yX8_spoil (Cond.code yX8_spoil cX8_spoil 3 none :: GW) r_x_spoil9 (va_Pc [.ref (ad 3), .int p0, .int p1] (gp D ks (xw ad kk V L Z) (xty kk Z) sz)) (q_x_spoil9 D ks ad kk V L Z p0 p1 (va_A (xw ad kk V L Z) sz)) 0 0 (va_A (xw ad kk V L Z) sz) := by
  refine g_met (q_x_spoil9 D ks ad kk V L Z p0 p1) (by decide) (Nat.le_of_ble_eq_true rfl) ?_
  intro p e s m below meth c A ls H locs hx hb hr hml hown hg hlocks hin hnw hgk hP hK hD hS hA hl
  have hown : s.vm.findClass RX8 = some m.cls := hown
  have hl : lv_has ls 3 [(0, .ref (ad 3)), (1, .int p0), (2, .int p1)] := hl
  have hP : va_P D vwCl (xw ad kk V L Z) H := hP
  have hD : va_D A (xw ad kk V L Z) := hD
  have hK : va_K D vwCl (xty kk Z) s := hK
  have agV : agr [] [24] V V := agr.rf
  refine lv_aload_n hx hb dX8_spoil_0 rfl (lv_at hl 0 rfl) ?_
  refine va_get (D := D) (ci := 8) (v := .ref (ad 21)) (fs := (xfStock ad V L Z)) (C := RX8) (T := TX8) (N := 16) hx hb hg inX8 hown hK hP 3 xgStock rfl 3 (by decide) (hg _ w377) (fun _ h9 => h9) rfl dX8_spoil_1 ?_
  refine lv_iload_n hx hb dX8_spoil_4 rfl (lv_at hl 1 rfl) ?_
  refine lv_dup2_11 hx hb dX8_spoil_5 rfl rfl ?_
  refine va_iald (D := D) (i := p0) hx hb hK hP 21 14 rfl rfl (i_in (a := p0.toInt) rfl (by (first | exact om_fc4b7ceebace rg_p0.1 rg_p0.2 | omega))) dX8_spoil_6 ?_
  refine lv_iconst (v := 1) hx hb dX8_spoil_7 (by decide) ?_
  refine lv_iload_n hx hb dX8_spoil_8 rfl (lv_at hl 2 rfl) ?_
  refine lv_ishl hx hb dX8_spoil_9 ?_
  refine lv_topi (fun z1 ez1 => ?_)
  refine lv_ior hx hb dX8_spoil_10 ?_
  refine lv_topi (fun z2 ez2 => ?_)
  refine va_iast (D := D) (i := p0) (x := z2) hx hb hK hP hD hS 21 14 rfl rfl (i_in (a := p0.toInt) rfl (by (first | exact om_fc4b7ceebace rg_p0.1 rg_p0.2 | omega))) dX8_spoil_11 (fun H locs hP hD hS => ?_)
  obtain ⟨V3, hV3⟩ : ∃ z, z = up2 V 24 (Int32.toNatClampNeg p0) z2 := ⟨_, rfl⟩
  have ew4 : (xw ad kk V L Z).set 21 ((ad 21), .inl ((kk 21), 40, .inl (upd (V 24) (Int32.toNatClampNeg p0) z2))) = xw ad kk V3 L Z := by rw [hV3]; exact xw_ss (by decide) rfl (xb_si (by decide))
  have hP : va_P D vwCl (xw ad kk V3 L Z) H := by rw [← ew4]; exact hP
  have hD : va_D A (xw ad kk V3 L Z) := by rw [← ew4]; exact hD
  have hMV3 : rgd bX V3 := hMV.put hV3 (i_full _)
  have agV3 : agr [] [24] V V3 := agV.up hV3 rfl
  have kt9 := i_clamp (x := p1) rfl (by (first | exact om_eafa9039069c sp0 | omega))
  exact W.vret hx hb hr (fun t ht hW => ⟨⟨(V3, L), rfl, ⟨hMV3, agV3, rfl, ⟨fun j hj => by show bt (V3 24 (Int32.toNatClampNeg p0)) j = true ↔ _; rw [up2_s hV3]; exact lb_set (x := V 24 (Int32.toNatClampNeg p0)) ez1 ez2 (show p1.toInt = ((Int32.toNatClampNeg p1 : Nat) : Int) from by (first | exact om_dadc9969542e kt9 | omega)) (by omega) hj, fun x hx => up2_k hV3 hx⟩⟩, by rw [ht]; exact hP, va_K.moved hW.alike hK, hD⟩, hS.F ht⟩) hS.2.2 dX8_spoil_12
abbrev r_x_finish9 : Room := { frames := 1, cells := 0, slots := 0, locals := 21 }
abbrev q_x_finish9 (D : va_G) (ks : KS) (ad : Nat → Nat) (kk : Nat → ClassId) (V : Vf) (L : Lf) (Z : XZ) (b : Nat) (gf : Nat) (gB : Bk) (gm : Mm) (ga : Int32) (gfr : Fr) (gr : List Fr) (A : Nat → Prop) : Array Value → State → Outcome → State → Prop := va_Qv (fun (u : Vf × Lf) => rgd bX u.1 ∧ agr [(3, 14), (5, 6), (5, 8), (5, 9), (5, 10)] [28, 29, 40] V u.1 ∧ u.2 = L ∧ (MJ u.1 Z b) ∧ (RW u.1 gB (mAns (mDone gm (V 70 gf).toInt.toNat) (nI (V 70 gf).toInt.toNat) gr))) (fun u t => gq D A (xw ad kk u.1 u.2 Z) (xty kk Z) t) A
set_option maxHeartbeats 4000000 in
set_option maxRecDepth 100000 in
theorem x_finish9 (l : Launch) (D : va_G) (ks : KS) (sz : Nat) (ad : Nat → Nat) (kk : Nat → ClassId) (V : Vf) (L : Lf) (Z : XZ) (b : Nat) (gf : Nat) (gB : Bk) (gm : Mm) (ga : Int32) (gfr : Fr) (gr : List Fr) (hMV : rgd bX V) (hb2 : b < 2) (hgf : gf < Z.nf) (mo : MO V Z b gf False False False) (gd : (gf : Int) + 1 = (V 5 6).toInt) (gk : (V 67 gf).toInt = 1) (rwq : RW V gB (gm, ga, gfr :: gr)) (bc : BKc V b gB) (sl8 : (V 5 6).toInt ≤ 395) (h30 : gm 3 (V 70 gf).toInt.toNat = 0) (md8 : (V 5 8).toInt ≤ 299) (en0 : 0 ≤ (V 3 14).toInt) (en1 : (V 3 14).toInt ≤ 300)  : Met l yX5_finish (Cond.code yX5_finish cX5_finish 2 none :: GW) r_x_finish9 (va_Pc [.ref (ad 5), .ref (Z.fa gf)] (gp D ks (xw ad kk V L Z) (xty kk Z) sz)) (q_x_finish9 D ks ad kk V L Z  b gf gB gm ga gfr gr (va_A (xw ad kk V L Z) sz)) 0 0 (va_A (xw ad kk V L Z) sz) := by
  refine g_met (q_x_finish9 D ks ad kk V L Z  b gf gB gm ga gfr gr) (by decide) (Nat.le_of_ble_eq_true rfl) ?_
  intro p e s m below meth c A ls H locs hx hb hr hml hown hg hlocks hin hnw hgk hP hK hD hS hA hl
  have hown : s.vm.findClass RX5 = some m.cls := hown
  have hl : lv_has ls 2 [(0, .ref (ad 5)), (1, .ref (Z.fa gf))] := hl
  have hP : va_P D vwCl (xw ad kk V L Z) H := hP
  have hD : va_D A (xw ad kk V L Z) := hD
  have hK : va_K D vwCl (xty kk Z) s := hK
  have agV : agr [(3, 14), (5, 6), (5, 8), (5, 9), (5, 10)] [28, 29, 40] V V := agr.rf
  have r1 : 0 ≤ ((V 5 6)).toInt ∧ ((V 5 6)).toInt ≤ 400 := hMV 5 6
  have r2 : 0 ≤ ((V 5 8)).toInt ∧ ((V 5 8)).toInt ≤ 300 := hMV 5 8
  have kdp := i_clamp (x := V 5 6) rfl (by (first | exact om_c66f1b494bd9 gd | omega))
  have hdn : (gf : Int) + 1 ≤ (Z.nf : Int) := by (first | exact om_29efded833ec hgf | omega)
  have mup := MO.up mo
  have msz := mup.1
  have mbk := mup.2.2.2.1
  obtain ⟨xk, fk⟩ := MO.fk mo
  have r3 : (-1) ≤ ((V 71 gf)).toInt ∧ ((V 71 gf)).toInt ≤ 23 := hMV 71 gf
  have r4 : 0 ≤ ((V 75 gf)).toInt ∧ ((V 75 gf)).toInt ≤ 12 := hMV 75 gf
  have r5 : 0 ≤ ((V 80 gf)).toInt ∧ ((V 80 gf)).toInt ≤ 300 := hMV 80 gf
  have r6 : 0 ≤ ((V 84 gf)).toInt ∧ ((V 84 gf)).toInt ≤ 2147483647 := hMV 84 gf
  have r7 : 0 ≤ ((V 5 9)).toInt ∧ ((V 5 9)).toInt ≤ 3 := hMV 5 9
  have r8 : 0 ≤ ((V 3 13)).toInt ∧ ((V 3 13)).toInt ≤ 300 := hMV 3 13
  have r9 : 0 ≤ ((V 43 (5 * b + 2))).toInt ∧ ((V 43 (5 * b + 2))).toInt ≤ ((xcap (5 * b + 2) : Nat) : Int) := hMV 43 (5 * b + 2)
  have r10 : xcap (5 * b + 2) = 24 := xcap_2
  have r11 : 0 ≤ ((V 41 b)).toInt ∧ ((V 41 b)).toInt ≤ 12 := hMV 41 b
  have r12 : 0 ≤ ((V 42 b)).toInt ∧ ((V 42 b)).toInt ≤ 8200 := hMV 42 b
  have fc := fk.1 (by omega)
  have fo := fk.2.1 (by omega) (by omega)
  have fi := fk.2.2.2.2.1 (by omega)
  have m1 : Int32.toInt (-1) = -1 := by decide
  have rw0 := rwq
  obtain ⟨⟨ow, rn⟩, rh, rd, tw9, rt9, rl⟩ := rw0
  have rn : RWn V ow gB gm := rn
  have rh : RWh V gm ga := rh
  have rd2 : (V 5 6).toInt = ((gr.length + 1 : Nat) : Int) := rd
  have gl9 : gr.length = gf := by (first | exact om_ec03263ced6a gd rd2 | omega)
  have sl9 : gr.length ≤ 394 := by (first | exact om_8b199089418a sl8 rd2 | omega)
  have rh1 : (V 5 9).toInt = gm 0 6 := rh.1
  have ra2 : (V 3 13).toInt = gm 0 2 := rn.1.1.2.2.1
  have rl0 := rl
  obtain ⟨t0, tl9, hf0, hbs9, hpl9, hlr⟩ := rl0
  rw [gl9] at hf0 hbs9
  rcases FRc.k1 hf0 gk with ⟨lv, o, c, pl, ps, it, hfe⟩ | ⟨lv, o, c, pl, hfe⟩
  · skip
    have hf : FRc V gB gf (Fmake lv o c pl ps it) := by rw [← hfe]; exact hf0
    have tl8 : tw9 = t0 + (Fmake lv o c pl ps it : Fr).2.2.2.length := by rw [← hfe]; exact tl9
    obtain ⟨⟨k67, k68⟩, hoc, q75, q76⟩ := hf
    obtain ⟨q69, ⟨q70, o0, o1⟩, ⟨q71, c0, c1⟩, ⟨q72, s0, s1⟩⟩ := hoc
    have cn9 : c.toNat < nC gB := by omega
    have kc9 : Int32.toNatClampNeg (V 71 gf) = c.toNat := by have h9 := i_clamp (x := V 71 gf) rfl (by omega); omega
    have ko9 : Int32.toNatClampNeg (V 70 gf) = o.toNat := by have h9 := i_clamp (x := V 70 gf) rfl (by omega); omega
    have kp9 : Int32.toNatClampNeg (V 72 gf) = pl.toNat := by have h9 := i_clamp (x := V 72 gf) rfl (by omega); omega
    have tz9 : tw9 = t0 := tl8
    have rh8 : (V 5 8).toInt = gm 0 4 := rh.2.2.2.1
    refine lv_aload_n hx hb dX5_finish_0 rfl (lv_at hl 0 rfl) ?_
    refine va_get (D := D) (ci := 5) (v := .ref (ad 3)) (fs := (xfMachine ad V L Z)) (C := RX5) (T := TX5) (N := 15) hx hb hg inX5 hown hK hP 5 xgMachine rfl 0 (by decide) (hg _ w667) (fun _ h9 => h9) rfl dX5_finish_1 ?_
    refine lv_aload_n hx hb dX5_finish_4 rfl (lv_at hl 1 rfl) ?_
    refine va_getN (D := D) (ci := 4) (v := .int (V 70 gf)) (fs := (xfFrame V gf)) (C := RX4) (T := TX4) (N := 19) hx hb hg inX4 hown hK hP (336 + gf) (xgFrame hgf) rfl 3 (by decide) (hnw.use 1192 n1192 rfl) (fun _ h9 => h9) rfl dX5_finish_5 ?_
    refine gA_void (gA_runV (As := [.int (V 70 gf)]) (rest := []) (ci := 8) (q0 := 3) hx hb hml hown hg hP hD hK hS hA hnw hgk (x_finishObject9 l D ks H.size ad kk V L Z (V 70 gf) hMV (by first | omega | ((try (have i_h30 := Imp.go h30 (by omega))); (try (have i_bc := Imp.go bc (by omega))); (try (have i_rwq := Imp.go rwq (by omega))); (try (have i_mo := Imp.go mo (by omega))); first | omega | ((try (have i_mo := Imp.go mo (by omega))); (try (have i_rwq := Imp.go rwq (by omega))); (try (have i_bc := Imp.go bc (by omega))); (try (have i_h30 := Imp.go h30 (by omega))); omega)))) w1348 w1349 w1350 w164 w1351 rfl xgStock hdV_yX8_finishObject ⟨Nat.le_of_ble_eq_true rfl, Nat.le_of_ble_eq_true rfl⟩ rfl hl.1 rfl (Nat.le_of_ble_eq_true rfl) dX5_finish_8 ⟨Nat.le_of_ble_eq_true rfl, Nat.le_of_ble_eq_true rfl⟩) hP hD hK hS hA (fun u14 H locs w15 hP hD hK hS => ?_)
    obtain ⟨V17, L18⟩ := u14
    obtain ⟨hMV17, ajV17, axL18, t16⟩ := w15
    have axL18 : L = L18 := Eq.symm axL18
    subst axL18
    have hP : va_P D vwCl (xw ad kk V17 L Z) H := hP
    have hD : va_D A (xw ad kk V17 L Z) := hD
    have hMV17 : rgd bX V17 := hMV17
    have ajV17 : agr [(3, 14)] [28, 29] V V17 := ajV17
    have agV17 : agr [(3, 14), (5, 6), (5, 8), (5, 9), (5, 10)] [28, 29, 40] V V17 := agV.tr ajV17 (by decide) (by decide)
    have t16 : ((True) ∧ V17 = (up2 (up2 (up2 V 28 (Int32.toNatClampNeg (V 70 gf)) 1) 3 14 (V 3 14 + 1)) 29 (Int32.toNatClampNeg (V 70 gf)) (V 3 14))) := t16
    have hw19 := t16.2
    obtain ⟨V20, hV20⟩ : ∃ z, z = up2 V 28 (Int32.toNatClampNeg (V 70 gf)) 1 := ⟨_, rfl⟩
    obtain ⟨z21, ez21⟩ : ∃ y : Int32, y = V 3 14 + 1 := ⟨_, rfl⟩
    have hz21 : z21.toInt = (V 3 14).toInt + 1 := i_add ez21 rfl (by decide) (by first | exact om_5b8d680fa6e8 en0 en1 | first | omega | ((try (have i_h30 := Imp.go h30 (by omega))); (try (have i_bc := Imp.go bc (by omega))); (try (have i_rwq := Imp.go rwq (by omega))); (try (have i_mo := Imp.go mo (by omega))); first | omega | ((try (have i_mo := Imp.go mo (by omega))); (try (have i_rwq := Imp.go rwq (by omega))); (try (have i_bc := Imp.go bc (by omega))); (try (have i_h30 := Imp.go h30 (by omega))); omega)))
    obtain ⟨V22, hV22⟩ : ∃ z, z = up2 V20 3 14 z21 := ⟨_, rfl⟩
    have hV17 : V17 = up2 V22 29 (Int32.toNatClampNeg (V 70 gf)) (V 3 14) := by rw [hw19, hV22, hV20, ez21]
    refine lv_aload_n hx hb dX5_finish_11 rfl (lv_at hl 0 rfl) ?_
    refine va_get (D := D) (ci := 5) (v := .int (V17 5 8)) (fs := (xfMachine ad V17 L Z)) (C := RX5) (T := TX5) (N := 15) hx hb hg inX5 hown hK hP 5 xgMachine rfl 8 (by decide) (hg _ w675) (fun _ h9 => h9) rfl dX5_finish_12 ?_
    refine g_top (v := (V 5 8)) ((up2_o hV17 (by decide)).trans ((up2_o hV22 (by decide)).trans (up2_o hV20 (by decide)))) ?_
    refine lv_sipush (v := 300) hx hb dX5_finish_15 (by decide) ?_
    refine lv_icmp_ge (tgt := 41) hx hb dX5_finish_18 (by decide) (fun c23 => ?_) (fun c23 => ?_)
    · skip
      have f24 : 300 ≤ ((V 5 8)).toInt := b_le (by decide) rfl c23
      refine lv_aload_n hx hb dX5_finish_41 rfl (lv_at hl 0 rfl) ?_
      refine lv_aload_n hx hb dX5_finish_42 rfl (lv_at hl 1 rfl) ?_
      refine va_getN (D := D) (ci := 4) (v := .int (V17 70 gf)) (fs := (xfFrame V17 gf)) (C := RX4) (T := TX4) (N := 19) hx hb hg inX4 hown hK hP (336 + gf) (xgFrame hgf) rfl 3 (by decide) (hnw.use 1192 n1192 rfl) (fun _ h9 => h9) rfl dX5_finish_43 ?_
      refine g_top (v := (V 70 gf)) ((up2_o hV17 (by decide)).trans ((up2_o hV22 (by decide)).trans (up2_o hV20 (by decide)))) ?_
      refine gA_void (gA_runV (As := [.int (V 70 gf)]) (rest := []) (ci := 5) (q0 := 5) hx hb hml hown hg hP hD hK hS hA hnw hgk (x_answerWith9 l D ks H.size ad kk V17 L Z (V 70 gf) hMV17 ) w1304 w1306 w49 w171 w1307 rfl xgMachine hdV_yX5_answerWith ⟨Nat.le_of_ble_eq_true rfl, Nat.le_of_ble_eq_true rfl⟩ rfl hl.1 rfl (Nat.le_of_ble_eq_true rfl) dX5_finish_46 ⟨Nat.le_of_ble_eq_true rfl, Nat.le_of_ble_eq_true rfl⟩) hP hD hK hS hA (fun u26 H locs w27 hP hD hK hS => ?_)
      obtain ⟨V31, L32⟩ := u26
      obtain ⟨hMV31, ajV31, axL32, t28, t29, t30⟩ := w27
      have axL32 : L = L32 := Eq.symm axL32
      subst axL32
      have hP : va_P D vwCl (xw ad kk V31 L Z) H := hP
      have hD : va_D A (xw ad kk V31 L Z) := hD
      have hMV31 : rgd bX V31 := hMV31
      have ajV31 : agr [(5, 9), (5, 10)] [] V17 V31 := ajV31
      have agV31 : agr [(3, 14), (5, 6), (5, 8), (5, 9), (5, 10)] [28, 29, 40] V V31 := agV17.tr ajV31 (by decide) (by decide)
      have t28 : (V31 5 9).toInt = 1 := t28
      have t29 : (V31 5 10).toInt = ((V 70 gf)).toInt := t29
      have t30 : ((True) ∧ V31 = (up2 (up2 V17 5 9 1) 5 10 (V 70 gf))) := t30
      have r33 : 0 ≤ ((V31 5 9)).toInt ∧ ((V31 5 9)).toInt ≤ 3 := hMV31 5 9
      have hw34 := t30.2
      obtain ⟨V35, hV35⟩ : ∃ z, z = up2 V17 5 9 1 := ⟨_, rfl⟩
      have hV31 : V31 = up2 V35 5 10 (V 70 gf) := by rw [hw34, hV35]
      refine lv_aload_n hx hb dX5_finish_49 rfl (lv_at hl 0 rfl) ?_
      have pq36 : (V31 5 6).toInt = ((V 5 6)).toInt := congrArg Int32.toInt ((up2_k hV31 (by decide)).trans ((up2_k hV35 (by decide)).trans ((up2_o hV17 (by decide)).trans ((up2_o hV22 (by decide)).trans (up2_o hV20 (by decide))))))
      refine gA_void (gA_runV (As := []) (rest := []) (ci := 5) (q0 := 5) hx hb hml hown hg hP hD hK hS hA hnw hgk (x_leave9 l D ks H.size ad kk V31 L Z  hMV31 (show 1 ≤ (V31 5 6).toInt from by first | omega | ((try (have i_h30 := Imp.go h30 (by omega))); (try (have i_bc := Imp.go bc (by omega))); (try (have i_rwq := Imp.go rwq (by omega))); (try (have i_mo := Imp.go mo (by omega))); first | omega | ((try (have i_mo := Imp.go mo (by omega))); (try (have i_rwq := Imp.go rwq (by omega))); (try (have i_bc := Imp.go bc (by omega))); (try (have i_h30 := Imp.go h30 (by omega))); omega)))) w1308 w1310 w50 w171 w1311 rfl xgMachine hdV_yX5_leave ⟨Nat.le_of_ble_eq_true rfl, Nat.le_of_ble_eq_true rfl⟩ rfl hl.1 rfl (Nat.le_of_ble_eq_true rfl) dX5_finish_50 ⟨Nat.le_of_ble_eq_true rfl, Nat.le_of_ble_eq_true rfl⟩) hP hD hK hS hA (fun u38 H locs w39 hP hD hK hS => ?_)
      obtain ⟨V42, L43⟩ := u38
      obtain ⟨hMV42, ajV42, axL43, t40, t41⟩ := w39
      have axL43 : L = L43 := Eq.symm axL43
      subst axL43
      have hP : va_P D vwCl (xw ad kk V42 L Z) H := hP
      have hD : va_D A (xw ad kk V42 L Z) := hD
      have hMV42 : rgd bX V42 := hMV42
      have ajV42 : agr [(5, 6)] [] V31 V42 := ajV42
      have agV42 : agr [(3, 14), (5, 6), (5, 8), (5, 9), (5, 10)] [28, 29, 40] V V42 := agV31.tr ajV42 (by decide) (by decide)
      have t40 : (V42 5 6).toInt = (V31 5 6).toInt - 1 := t40
      have t41 : ((True) ∧ V42 = (up2 V31 5 6 (V31 5 6 - 1))) := t41
      have r44 : 0 ≤ ((V42 5 6)).toInt ∧ ((V42 5 6)).toInt ≤ 400 := hMV42 5 6
      have hw45 := t41.2
      obtain ⟨z46, ez46⟩ : ∃ y : Int32, y = V31 5 6 - 1 := ⟨_, rfl⟩
      have hz46 : z46.toInt = (V31 5 6).toInt - 1 := i_sub ez46 rfl (by decide) (by first | omega | ((try (have i_h30 := Imp.go h30 (by omega))); (try (have i_bc := Imp.go bc (by omega))); (try (have i_rwq := Imp.go rwq (by omega))); (try (have i_mo := Imp.go mo (by omega))); first | omega | ((try (have i_mo := Imp.go mo (by omega))); (try (have i_rwq := Imp.go rwq (by omega))); (try (have i_bc := Imp.go bc (by omega))); (try (have i_h30 := Imp.go h30 (by omega))); omega)))
      have hV42 : V42 = up2 V31 5 6 z46 := by rw [hw45, ez46]
      have me47 : ME V V42 gf := (ME.up (ME.up (ME.up (ME.up (ME.up (ME.up ME.rf hV20 (Or.inr (by omega))) hV22 (Or.inr (by omega))) hV17 (Or.inr (by omega))) hV35 (Or.inr (by omega))) hV31 (Or.inr (by omega))) hV42 (Or.inr (by omega)))
      have pq48 : (V42 67 gf).toInt = ((V 67 gf)).toInt := congrArg Int32.toInt ((up2_o hV42 (by decide)).trans ((up2_o hV31 (by decide)).trans ((up2_o hV35 (by decide)).trans ((up2_o hV17 (by decide)).trans ((up2_o hV22 (by decide)).trans (up2_o hV20 (by decide)))))))
      have pq49 : (V42 68 gf).toInt = ((V 68 gf)).toInt := congrArg Int32.toInt ((up2_o hV42 (by decide)).trans ((up2_o hV31 (by decide)).trans ((up2_o hV35 (by decide)).trans ((up2_o hV17 (by decide)).trans ((up2_o hV22 (by decide)).trans (up2_o hV20 (by decide)))))))
      have pq50 : (V42 70 gf).toInt = ((V 70 gf)).toInt := congrArg Int32.toInt ((up2_o hV42 (by decide)).trans ((up2_o hV31 (by decide)).trans ((up2_o hV35 (by decide)).trans ((up2_o hV17 (by decide)).trans ((up2_o hV22 (by decide)).trans (up2_o hV20 (by decide)))))))
      have pq51 : (V42 71 gf).toInt = ((V 71 gf)).toInt := congrArg Int32.toInt ((up2_o hV42 (by decide)).trans ((up2_o hV31 (by decide)).trans ((up2_o hV35 (by decide)).trans ((up2_o hV17 (by decide)).trans ((up2_o hV22 (by decide)).trans (up2_o hV20 (by decide)))))))
      have pq52 : (V42 75 gf).toInt = ((V 75 gf)).toInt := congrArg Int32.toInt ((up2_o hV42 (by decide)).trans ((up2_o hV31 (by decide)).trans ((up2_o hV35 (by decide)).trans ((up2_o hV17 (by decide)).trans ((up2_o hV22 (by decide)).trans (up2_o hV20 (by decide)))))))
      have pq53 : (V42 76 gf).toInt = ((V 76 gf)).toInt := congrArg Int32.toInt ((up2_o hV42 (by decide)).trans ((up2_o hV31 (by decide)).trans ((up2_o hV35 (by decide)).trans ((up2_o hV17 (by decide)).trans ((up2_o hV22 (by decide)).trans (up2_o hV20 (by decide)))))))
      have pq54 : (V42 80 gf).toInt = ((V 80 gf)).toInt := congrArg Int32.toInt ((up2_o hV42 (by decide)).trans ((up2_o hV31 (by decide)).trans ((up2_o hV35 (by decide)).trans ((up2_o hV17 (by decide)).trans ((up2_o hV22 (by decide)).trans (up2_o hV20 (by decide)))))))
      have pq55 : (V42 84 gf).toInt = ((V 84 gf)).toInt := congrArg Int32.toInt ((up2_o hV42 (by decide)).trans ((up2_o hV31 (by decide)).trans ((up2_o hV35 (by decide)).trans ((up2_o hV17 (by decide)).trans ((up2_o hV22 (by decide)).trans (up2_o hV20 (by decide)))))))
      have pq56 : (V42 5 6).toInt = z46.toInt := congrArg Int32.toInt (up2_s hV42)
      have pq57 : (V42 5 8).toInt = ((V 5 8)).toInt := congrArg Int32.toInt ((up2_k hV42 (by decide)).trans ((up2_k hV31 (by decide)).trans ((up2_k hV35 (by decide)).trans ((up2_o hV17 (by decide)).trans ((up2_o hV22 (by decide)).trans (up2_o hV20 (by decide)))))))
      have pq58 : (V42 5 9).toInt = 1 := (congrArg Int32.toInt ((up2_k hV42 (by decide)).trans ((up2_k hV31 (by decide)).trans (up2_s hV35)))).trans (by decide)
      have pq59 : (V42 3 13).toInt = ((V 3 13)).toInt := congrArg Int32.toInt ((up2_o hV42 (by decide)).trans ((up2_o hV31 (by decide)).trans ((up2_o hV35 (by decide)).trans ((up2_o hV17 (by decide)).trans ((up2_k hV22 (by decide)).trans (up2_o hV20 (by decide)))))))
      have pq60 : (V42 43 (5 * b + 2)).toInt = ((V 43 (5 * b + 2))).toInt := congrArg Int32.toInt ((up2_o hV42 (by decide)).trans ((up2_o hV31 (by decide)).trans ((up2_o hV35 (by decide)).trans ((up2_o hV17 (by decide)).trans ((up2_o hV22 (by decide)).trans (up2_o hV20 (by decide)))))))
      have pq61 : (V42 42 b).toInt = ((V 42 b)).toInt := congrArg Int32.toInt ((up2_o hV42 (by decide)).trans ((up2_o hV31 (by decide)).trans ((up2_o hV35 (by decide)).trans ((up2_o hV17 (by decide)).trans ((up2_o hV22 (by decide)).trans (up2_o hV20 (by decide)))))))
      have pq62 : (V42 41 b).toInt = ((V 41 b)).toInt := congrArg Int32.toInt ((up2_o hV42 (by decide)).trans ((up2_o hV31 (by decide)).trans ((up2_o hV35 (by decide)).trans ((up2_o hV17 (by decide)).trans ((up2_o hV22 (by decide)).trans (up2_o hV20 (by decide)))))))
      have rp63 : MJ V42 Z b := MP.lv (MO.mp mo) me47 (by omega) (fun _ => Or.inl (by omega))
      exact W.vret hx hb hr (fun t ht hW => ⟨⟨(V42, L), rfl, ⟨hMV42, agV42, rfl, rp63, (by exfalso; (first | exact om_455978680aa0 md8 f24 | omega))⟩, by rw [ht]; exact hP, va_K.moved hW.alike hK, hD⟩, hS.F ht⟩) hS.2.2 dX5_finish_53
    · skip
      have f65 : ((V 5 8)).toInt < 300 := b_nle (by decide) rfl c23
      refine lv_aload_n hx hb dX5_finish_21 rfl (lv_at hl 0 rfl) ?_
      refine va_get (D := D) (ci := 5) (v := .ref (ad 37)) (fs := (xfMachine ad V17 L Z)) (C := RX5) (T := TX5) (N := 15) hx hb hg inX5 hown hK hP 5 xgMachine rfl 4 (by decide) (hg _ w671) (fun _ h9 => h9) rfl dX5_finish_22 ?_
      refine lv_aload_n hx hb dX5_finish_25 rfl (lv_at hl 0 rfl) ?_
      refine lv_dup hx hb dX5_finish_26 rfl ?_
      refine va_get (D := D) (ci := 5) (v := .int (V17 5 8)) (fs := (xfMachine ad V17 L Z)) (C := RX5) (T := TX5) (N := 15) hx hb hg inX5 hown hK hP 5 xgMachine rfl 8 (by decide) (hg _ w675) (fun _ h9 => h9) rfl dX5_finish_27 ?_
      refine g_top (v := (V 5 8)) ((up2_o hV17 (by decide)).trans ((up2_o hV22 (by decide)).trans (up2_o hV20 (by decide)))) ?_
      refine lv_dup_x1 hx hb dX5_finish_30 rfl rfl ?_
      refine lv_iconst (v := 1) hx hb dX5_finish_31 (by decide) ?_
      refine lv_iadd hx hb dX5_finish_32 ?_
      refine lv_topi (fun z66 ez66 => ?_)
      have hz66 : z66.toInt = ((V 5 8)).toInt + 1 := i_add ez66 rfl (by decide) (by (first | exact om_760427d6503a md8 r2.1 | omega))
      refine va_put (D := D) (ci := 5) (v := .int z66) (ty := tyX5 8) (fs := (xfMachine ad V17 L Z)) (C := RX5) (T := TX5) (N := 15) hx hb hg inX5 tyX5 tyX5_ok nmX5 hown hK hP hD hS 5 xgMachine rfl 8 (by decide) (hg _ w675) (fun _ h9 => h9) rfl (tyX5_ok 8 (by decide)) rfl rfl (Nat.le_of_ble_eq_true rfl) dX5_finish_33 (fun H locs hP hD hS => ?_)
      obtain ⟨V67, hV67⟩ : ∃ z, z = up2 V17 5 8 z66 := ⟨_, rfl⟩
      have ew68 : (xw ad kk V17 L Z).set 5 ((ad 5), .inr (5, (xfMachine ad V17 L Z).set 8 (.int z66))) = xw ad kk V67 L Z := by rw [hV67]; exact xw_ss (by decide) rfl (xb_si (by decide))
      have hP : va_P D vwCl (xw ad kk V67 L Z) H := by rw [← ew68]; exact hP
      have hD : va_D A (xw ad kk V67 L Z) := by rw [← ew68]; exact hD
      have hMV67 : rgd bX V67 := hMV17.put hV67 (show 0 ≤ z66.toInt ∧ z66.toInt ≤ 300 from by first | exact om_df904983c185 md8 r2.1 hz66 | first | omega | ((try (have i_h30 := Imp.go h30 (by omega))); (try (have i_bc := Imp.go bc (by omega))); (try (have i_rwq := Imp.go rwq (by omega))); (try (have i_mo := Imp.go mo (by omega))); first | omega | ((try (have i_mo := Imp.go mo (by omega))); (try (have i_rwq := Imp.go rwq (by omega))); (try (have i_bc := Imp.go bc (by omega))); (try (have i_h30 := Imp.go h30 (by omega))); omega)))
      have agV67 : agr [(3, 14), (5, 6), (5, 8), (5, 9), (5, 10)] [28, 29, 40] V V67 := agV17.up hV67 rfl
      refine lv_aload_n hx hb dX5_finish_36 rfl (lv_at hl 1 rfl) ?_
      refine va_getN (D := D) (ci := 4) (v := .int (V67 70 gf)) (fs := (xfFrame V67 gf)) (C := RX4) (T := TX4) (N := 19) hx hb hg inX4 hown hK hP (336 + gf) (xgFrame hgf) rfl 3 (by decide) (hnw.use 1192 n1192 rfl) (fun _ h9 => h9) rfl dX5_finish_37 ?_
      refine g_top (v := (V 70 gf)) ((up2_o hV67 (by decide)).trans ((up2_o hV17 (by decide)).trans ((up2_o hV22 (by decide)).trans (up2_o hV20 (by decide))))) ?_
      refine va_iast (D := D) (i := (V 5 8)) (x := (V 70 gf)) hx hb hK hP hD hS 37 30 rfl rfl (i_in (a := ((V 5 8)).toInt) rfl (by first | exact om_1ef2a0549dee md8 r2.1 | first | omega | ((try (have i_h30 := Imp.go h30 (by omega))); (try (have i_bc := Imp.go bc (by omega))); (try (have i_rwq := Imp.go rwq (by omega))); (try (have i_mo := Imp.go mo (by omega))); first | omega | ((try (have i_mo := Imp.go mo (by omega))); (try (have i_rwq := Imp.go rwq (by omega))); (try (have i_bc := Imp.go bc (by omega))); (try (have i_h30 := Imp.go h30 (by omega))); omega)))) dX5_finish_40 (fun H locs hP hD hS => ?_)
      obtain ⟨V69, hV69⟩ : ∃ z, z = up2 V67 40 (Int32.toNatClampNeg (V 5 8)) (V 70 gf) := ⟨_, rfl⟩
      have ew70 : (xw ad kk V67 L Z).set 37 ((ad 37), .inl ((kk 37), 300, .inl (upd (V67 40) (Int32.toNatClampNeg (V 5 8)) (V 70 gf)))) = xw ad kk V69 L Z := by rw [hV69]; exact xw_ss (by decide) rfl (xb_si (by decide))
      have hP : va_P D vwCl (xw ad kk V69 L Z) H := by rw [← ew70]; exact hP
      have hD : va_D A (xw ad kk V69 L Z) := by rw [← ew70]; exact hD
      have hMV69 : rgd bX V69 := hMV67.put hV69 (show 0 ≤ ((V 70 gf)).toInt ∧ ((V 70 gf)).toInt ≤ 299 from by first | omega | ((try (have i_h30 := Imp.go h30 (by omega))); (try (have i_bc := Imp.go bc (by omega))); (try (have i_rwq := Imp.go rwq (by omega))); (try (have i_mo := Imp.go mo (by omega))); first | omega | ((try (have i_mo := Imp.go mo (by omega))); (try (have i_rwq := Imp.go rwq (by omega))); (try (have i_bc := Imp.go bc (by omega))); (try (have i_h30 := Imp.go h30 (by omega))); omega)))
      have agV69 : agr [(3, 14), (5, 6), (5, 8), (5, 9), (5, 10)] [28, 29, 40] V V69 := agV67.up hV69 rfl
      have me71 : ME V V17 gf := (ME.up (ME.up (ME.up ME.rf hV20 (Or.inr (by omega))) hV22 (Or.inr (by omega))) hV17 (Or.inr (by omega)))
      have pq72 : (V17 67 gf).toInt = ((V 67 gf)).toInt := congrArg Int32.toInt ((up2_o hV17 (by decide)).trans ((up2_o hV22 (by decide)).trans (up2_o hV20 (by decide))))
      have pq73 : (V17 68 gf).toInt = ((V 68 gf)).toInt := congrArg Int32.toInt ((up2_o hV17 (by decide)).trans ((up2_o hV22 (by decide)).trans (up2_o hV20 (by decide))))
      have pq74 : (V17 70 gf).toInt = ((V 70 gf)).toInt := congrArg Int32.toInt ((up2_o hV17 (by decide)).trans ((up2_o hV22 (by decide)).trans (up2_o hV20 (by decide))))
      have pq75 : (V17 71 gf).toInt = ((V 71 gf)).toInt := congrArg Int32.toInt ((up2_o hV17 (by decide)).trans ((up2_o hV22 (by decide)).trans (up2_o hV20 (by decide))))
      have pq76 : (V17 75 gf).toInt = ((V 75 gf)).toInt := congrArg Int32.toInt ((up2_o hV17 (by decide)).trans ((up2_o hV22 (by decide)).trans (up2_o hV20 (by decide))))
      have pq77 : (V17 76 gf).toInt = ((V 76 gf)).toInt := congrArg Int32.toInt ((up2_o hV17 (by decide)).trans ((up2_o hV22 (by decide)).trans (up2_o hV20 (by decide))))
      have pq78 : (V17 80 gf).toInt = ((V 80 gf)).toInt := congrArg Int32.toInt ((up2_o hV17 (by decide)).trans ((up2_o hV22 (by decide)).trans (up2_o hV20 (by decide))))
      have pq79 : (V17 84 gf).toInt = ((V 84 gf)).toInt := congrArg Int32.toInt ((up2_o hV17 (by decide)).trans ((up2_o hV22 (by decide)).trans (up2_o hV20 (by decide))))
      have pq80 : (V17 5 6).toInt = ((V 5 6)).toInt := congrArg Int32.toInt ((up2_o hV17 (by decide)).trans ((up2_o hV22 (by decide)).trans (up2_o hV20 (by decide))))
      have pq81 : (V17 5 8).toInt = ((V 5 8)).toInt := congrArg Int32.toInt ((up2_o hV17 (by decide)).trans ((up2_o hV22 (by decide)).trans (up2_o hV20 (by decide))))
      have pq82 : (V17 5 9).toInt = ((V 5 9)).toInt := congrArg Int32.toInt ((up2_o hV17 (by decide)).trans ((up2_o hV22 (by decide)).trans (up2_o hV20 (by decide))))
      have pq83 : (V17 3 13).toInt = ((V 3 13)).toInt := congrArg Int32.toInt ((up2_o hV17 (by decide)).trans ((up2_k hV22 (by decide)).trans (up2_o hV20 (by decide))))
      have pq84 : (V17 43 (5 * b + 2)).toInt = ((V 43 (5 * b + 2))).toInt := congrArg Int32.toInt ((up2_o hV17 (by decide)).trans ((up2_o hV22 (by decide)).trans (up2_o hV20 (by decide))))
      have pq85 : (V17 42 b).toInt = ((V 42 b)).toInt := congrArg Int32.toInt ((up2_o hV17 (by decide)).trans ((up2_o hV22 (by decide)).trans (up2_o hV20 (by decide))))
      have pq86 : (V17 41 b).toInt = ((V 41 b)).toInt := congrArg Int32.toInt ((up2_o hV17 (by decide)).trans ((up2_o hV22 (by decide)).trans (up2_o hV20 (by decide))))
      have mo87 : MO V17 Z b gf False False False := MO.ch mo me71 ((up2_o hV17 (by decide)).trans ((up2_o hV22 (by decide)).trans (up2_o hV20 (by decide)))) ((up2_o hV17 (by decide)).trans ((up2_o hV22 (by decide)).trans (up2_o hV20 (by decide)))) (fun _ => Or.inl (by omega)) (fun x h => FK.s1 h (by omega) (by omega) (by omega) (by omega) (by omega) (fun z => z.elim))
      have kmd := i_clamp (x := (V 5 8)) rfl (by (first | exact om_eafa9039069c r2.1 | omega))
      have mp88 : MP V69 Z b gf True := MO.made mo87 (by (first | exact om_ed616bc53b7b gk pq72 | omega)) hV67 hV69 (by (first | exact om_1e933ee011dc hz66 pq81 | omega)) (by (first | exact om_2fd0a1c2005b pq81 kmd | omega)) (by omega)
      refine lv_aload_n hx hb dX5_finish_41 rfl (lv_at hl 0 rfl) ?_
      refine lv_aload_n hx hb dX5_finish_42 rfl (lv_at hl 1 rfl) ?_
      refine va_getN (D := D) (ci := 4) (v := .int (V69 70 gf)) (fs := (xfFrame V69 gf)) (C := RX4) (T := TX4) (N := 19) hx hb hg inX4 hown hK hP (336 + gf) (xgFrame hgf) rfl 3 (by decide) (hnw.use 1192 n1192 rfl) (fun _ h9 => h9) rfl dX5_finish_43 ?_
      refine g_top (v := (V 70 gf)) ((up2_o hV69 (by decide)).trans ((up2_o hV67 (by decide)).trans ((up2_o hV17 (by decide)).trans ((up2_o hV22 (by decide)).trans (up2_o hV20 (by decide)))))) ?_
      refine gA_void (gA_runV (As := [.int (V 70 gf)]) (rest := []) (ci := 5) (q0 := 5) hx hb hml hown hg hP hD hK hS hA hnw hgk (x_answerWith9 l D ks H.size ad kk V69 L Z (V 70 gf) hMV69 ) w1304 w1306 w49 w171 w1307 rfl xgMachine hdV_yX5_answerWith ⟨Nat.le_of_ble_eq_true rfl, Nat.le_of_ble_eq_true rfl⟩ rfl hl.1 rfl (Nat.le_of_ble_eq_true rfl) dX5_finish_46 ⟨Nat.le_of_ble_eq_true rfl, Nat.le_of_ble_eq_true rfl⟩) hP hD hK hS hA (fun u90 H locs w91 hP hD hK hS => ?_)
      obtain ⟨V95, L96⟩ := u90
      obtain ⟨hMV95, ajV95, axL96, t92, t93, t94⟩ := w91
      have axL96 : L = L96 := Eq.symm axL96
      subst axL96
      have hP : va_P D vwCl (xw ad kk V95 L Z) H := hP
      have hD : va_D A (xw ad kk V95 L Z) := hD
      have hMV95 : rgd bX V95 := hMV95
      have ajV95 : agr [(5, 9), (5, 10)] [] V69 V95 := ajV95
      have agV95 : agr [(3, 14), (5, 6), (5, 8), (5, 9), (5, 10)] [28, 29, 40] V V95 := agV69.tr ajV95 (by decide) (by decide)
      have t92 : (V95 5 9).toInt = 1 := t92
      have t93 : (V95 5 10).toInt = ((V 70 gf)).toInt := t93
      have t94 : ((True) ∧ V95 = (up2 (up2 V69 5 9 1) 5 10 (V 70 gf))) := t94
      have r97 : 0 ≤ ((V95 5 9)).toInt ∧ ((V95 5 9)).toInt ≤ 3 := hMV95 5 9
      have hw98 := t94.2
      obtain ⟨V99, hV99⟩ : ∃ z, z = up2 V69 5 9 1 := ⟨_, rfl⟩
      have hV95 : V95 = up2 V99 5 10 (V 70 gf) := by rw [hw98, hV99]
      refine lv_aload_n hx hb dX5_finish_49 rfl (lv_at hl 0 rfl) ?_
      have pq100 : (V95 5 6).toInt = ((V 5 6)).toInt := congrArg Int32.toInt ((up2_k hV95 (by decide)).trans ((up2_k hV99 (by decide)).trans ((up2_o hV69 (by decide)).trans ((up2_k hV67 (by decide)).trans ((up2_o hV17 (by decide)).trans ((up2_o hV22 (by decide)).trans (up2_o hV20 (by decide))))))))
      refine gA_void (gA_runV (As := []) (rest := []) (ci := 5) (q0 := 5) hx hb hml hown hg hP hD hK hS hA hnw hgk (x_leave9 l D ks H.size ad kk V95 L Z  hMV95 (show 1 ≤ (V95 5 6).toInt from by first | exact om_0cac171fa40c gd pq100 | first | omega | ((try (have i_h30 := Imp.go h30 (by omega))); (try (have i_bc := Imp.go bc (by omega))); (try (have i_rwq := Imp.go rwq (by omega))); (try (have i_mo := Imp.go mo (by omega))); first | omega | ((try (have i_mo := Imp.go mo (by omega))); (try (have i_rwq := Imp.go rwq (by omega))); (try (have i_bc := Imp.go bc (by omega))); (try (have i_h30 := Imp.go h30 (by omega))); omega)))) w1308 w1310 w50 w171 w1311 rfl xgMachine hdV_yX5_leave ⟨Nat.le_of_ble_eq_true rfl, Nat.le_of_ble_eq_true rfl⟩ rfl hl.1 rfl (Nat.le_of_ble_eq_true rfl) dX5_finish_50 ⟨Nat.le_of_ble_eq_true rfl, Nat.le_of_ble_eq_true rfl⟩) hP hD hK hS hA (fun u102 H locs w103 hP hD hK hS => ?_)
      obtain ⟨V106, L107⟩ := u102
      obtain ⟨hMV106, ajV106, axL107, t104, t105⟩ := w103
      have axL107 : L = L107 := Eq.symm axL107
      subst axL107
      have hP : va_P D vwCl (xw ad kk V106 L Z) H := hP
      have hD : va_D A (xw ad kk V106 L Z) := hD
      have hMV106 : rgd bX V106 := hMV106
      have ajV106 : agr [(5, 6)] [] V95 V106 := ajV106
      have agV106 : agr [(3, 14), (5, 6), (5, 8), (5, 9), (5, 10)] [28, 29, 40] V V106 := agV95.tr ajV106 (by decide) (by decide)
      have t104 : (V106 5 6).toInt = (V95 5 6).toInt - 1 := t104
      have t105 : ((True) ∧ V106 = (up2 V95 5 6 (V95 5 6 - 1))) := t105
      have r108 : 0 ≤ ((V106 5 6)).toInt ∧ ((V106 5 6)).toInt ≤ 400 := hMV106 5 6
      have hw109 := t105.2
      obtain ⟨z110, ez110⟩ : ∃ y : Int32, y = V95 5 6 - 1 := ⟨_, rfl⟩
      have hz110 : z110.toInt = (V95 5 6).toInt - 1 := i_sub ez110 rfl (by decide) (by first | exact om_6d325bb5c224 sl8 pq100 t104 r108.1 | first | omega | ((try (have i_h30 := Imp.go h30 (by omega))); (try (have i_bc := Imp.go bc (by omega))); (try (have i_rwq := Imp.go rwq (by omega))); (try (have i_mo := Imp.go mo (by omega))); first | omega | ((try (have i_mo := Imp.go mo (by omega))); (try (have i_rwq := Imp.go rwq (by omega))); (try (have i_bc := Imp.go bc (by omega))); (try (have i_h30 := Imp.go h30 (by omega))); omega)))
      have hV106 : V106 = up2 V95 5 6 z110 := by rw [hw109, ez110]
      have me111 : ME V69 V106 gf := (ME.up (ME.up (ME.up ME.rf hV99 (Or.inr (by omega))) hV95 (Or.inr (by omega))) hV106 (Or.inr (by omega)))
      have pq112 : (V106 67 gf).toInt = ((V 67 gf)).toInt := congrArg Int32.toInt ((up2_o hV106 (by decide)).trans ((up2_o hV95 (by decide)).trans ((up2_o hV99 (by decide)).trans ((up2_o hV69 (by decide)).trans ((up2_o hV67 (by decide)).trans ((up2_o hV17 (by decide)).trans ((up2_o hV22 (by decide)).trans (up2_o hV20 (by decide)))))))))
      have pq113 : (V106 68 gf).toInt = ((V 68 gf)).toInt := congrArg Int32.toInt ((up2_o hV106 (by decide)).trans ((up2_o hV95 (by decide)).trans ((up2_o hV99 (by decide)).trans ((up2_o hV69 (by decide)).trans ((up2_o hV67 (by decide)).trans ((up2_o hV17 (by decide)).trans ((up2_o hV22 (by decide)).trans (up2_o hV20 (by decide)))))))))
      have pq114 : (V106 70 gf).toInt = ((V 70 gf)).toInt := congrArg Int32.toInt ((up2_o hV106 (by decide)).trans ((up2_o hV95 (by decide)).trans ((up2_o hV99 (by decide)).trans ((up2_o hV69 (by decide)).trans ((up2_o hV67 (by decide)).trans ((up2_o hV17 (by decide)).trans ((up2_o hV22 (by decide)).trans (up2_o hV20 (by decide)))))))))
      have pq115 : (V106 71 gf).toInt = ((V 71 gf)).toInt := congrArg Int32.toInt ((up2_o hV106 (by decide)).trans ((up2_o hV95 (by decide)).trans ((up2_o hV99 (by decide)).trans ((up2_o hV69 (by decide)).trans ((up2_o hV67 (by decide)).trans ((up2_o hV17 (by decide)).trans ((up2_o hV22 (by decide)).trans (up2_o hV20 (by decide)))))))))
      have pq116 : (V106 75 gf).toInt = ((V 75 gf)).toInt := congrArg Int32.toInt ((up2_o hV106 (by decide)).trans ((up2_o hV95 (by decide)).trans ((up2_o hV99 (by decide)).trans ((up2_o hV69 (by decide)).trans ((up2_o hV67 (by decide)).trans ((up2_o hV17 (by decide)).trans ((up2_o hV22 (by decide)).trans (up2_o hV20 (by decide)))))))))
      have pq117 : (V106 76 gf).toInt = ((V 76 gf)).toInt := congrArg Int32.toInt ((up2_o hV106 (by decide)).trans ((up2_o hV95 (by decide)).trans ((up2_o hV99 (by decide)).trans ((up2_o hV69 (by decide)).trans ((up2_o hV67 (by decide)).trans ((up2_o hV17 (by decide)).trans ((up2_o hV22 (by decide)).trans (up2_o hV20 (by decide)))))))))
      have pq118 : (V106 80 gf).toInt = ((V 80 gf)).toInt := congrArg Int32.toInt ((up2_o hV106 (by decide)).trans ((up2_o hV95 (by decide)).trans ((up2_o hV99 (by decide)).trans ((up2_o hV69 (by decide)).trans ((up2_o hV67 (by decide)).trans ((up2_o hV17 (by decide)).trans ((up2_o hV22 (by decide)).trans (up2_o hV20 (by decide)))))))))
      have pq119 : (V106 84 gf).toInt = ((V 84 gf)).toInt := congrArg Int32.toInt ((up2_o hV106 (by decide)).trans ((up2_o hV95 (by decide)).trans ((up2_o hV99 (by decide)).trans ((up2_o hV69 (by decide)).trans ((up2_o hV67 (by decide)).trans ((up2_o hV17 (by decide)).trans ((up2_o hV22 (by decide)).trans (up2_o hV20 (by decide)))))))))
      have pq120 : (V106 5 6).toInt = z110.toInt := congrArg Int32.toInt (up2_s hV106)
      have pq121 : (V106 5 8).toInt = z66.toInt := congrArg Int32.toInt ((up2_k hV106 (by decide)).trans ((up2_k hV95 (by decide)).trans ((up2_k hV99 (by decide)).trans ((up2_o hV69 (by decide)).trans (up2_s hV67)))))
      have pq122 : (V106 5 9).toInt = 1 := (congrArg Int32.toInt ((up2_k hV106 (by decide)).trans ((up2_k hV95 (by decide)).trans (up2_s hV99)))).trans (by decide)
      have pq123 : (V106 3 13).toInt = ((V 3 13)).toInt := congrArg Int32.toInt ((up2_o hV106 (by decide)).trans ((up2_o hV95 (by decide)).trans ((up2_o hV99 (by decide)).trans ((up2_o hV69 (by decide)).trans ((up2_o hV67 (by decide)).trans ((up2_o hV17 (by decide)).trans ((up2_k hV22 (by decide)).trans (up2_o hV20 (by decide)))))))))
      have pq124 : (V106 43 (5 * b + 2)).toInt = ((V 43 (5 * b + 2))).toInt := congrArg Int32.toInt ((up2_o hV106 (by decide)).trans ((up2_o hV95 (by decide)).trans ((up2_o hV99 (by decide)).trans ((up2_o hV69 (by decide)).trans ((up2_o hV67 (by decide)).trans ((up2_o hV17 (by decide)).trans ((up2_o hV22 (by decide)).trans (up2_o hV20 (by decide)))))))))
      have pq125 : (V106 42 b).toInt = ((V 42 b)).toInt := congrArg Int32.toInt ((up2_o hV106 (by decide)).trans ((up2_o hV95 (by decide)).trans ((up2_o hV99 (by decide)).trans ((up2_o hV69 (by decide)).trans ((up2_o hV67 (by decide)).trans ((up2_o hV17 (by decide)).trans ((up2_o hV22 (by decide)).trans (up2_o hV20 (by decide)))))))))
      have pq126 : (V106 41 b).toInt = ((V 41 b)).toInt := congrArg Int32.toInt ((up2_o hV106 (by decide)).trans ((up2_o hV95 (by decide)).trans ((up2_o hV99 (by decide)).trans ((up2_o hV69 (by decide)).trans ((up2_o hV67 (by decide)).trans ((up2_o hV17 (by decide)).trans ((up2_o hV22 (by decide)).trans (up2_o hV20 (by decide)))))))))
      have rp127 : MJ V106 Z b := MP.lv mp88 me111 (by (first | exact om_dca0de52e899 gd pq100 hz110 pq120 | omega)) (fun _ => trivial)
      have pq129 : (V106 5 7).toInt = ((V 5 7)).toInt := congrArg Int32.toInt ((up2_k hV106 (by decide)).trans ((up2_k hV95 (by decide)).trans ((up2_k hV99 (by decide)).trans ((up2_o hV69 (by decide)).trans ((up2_k hV67 (by decide)).trans ((up2_o hV17 (by decide)).trans ((up2_o hV22 (by decide)).trans (up2_o hV20 (by decide)))))))))
      have r130 : 0 ≤ ((V 5 7)).toInt ∧ ((V 5 7)).toInt ≤ 2048 := hMV 5 7
      have rl131 : RWl V106 gB gr t0 := RWl.mv hlr (fun i9 hi9 c9 h1 h2 => ((show V106 c9 i9 = V95 c9 i9 from by rw [hV106]; exact up2_pl (by omega)).trans ((show V95 c9 i9 = V99 c9 i9 from by rw [hV95]; exact up2_pl (by omega)).trans ((show V99 c9 i9 = V69 c9 i9 from by rw [hV99]; exact up2_pl (by omega)).trans ((show V69 c9 i9 = V67 c9 i9 from by rw [hV69]; exact up2_pl (by omega)).trans ((show V67 c9 i9 = V17 c9 i9 from by rw [hV67]; exact up2_pl (by omega)).trans ((show V17 c9 i9 = V22 c9 i9 from by rw [hV17]; exact up2_pl (by omega)).trans ((show V22 c9 i9 = V20 c9 i9 from by rw [hV22]; exact up2_pl (by omega)).trans (show V20 c9 i9 = V c9 i9 from by rw [hV20]; exact up2_pl (by omega)))))))))) (fun j9 hj9 => ((up2_o hV106 (by decide)).trans ((up2_o hV95 (by decide)).trans ((up2_o hV99 (by decide)).trans ((up2_o hV69 (by decide)).trans ((up2_o hV67 (by decide)).trans ((up2_o hV17 (by decide)).trans ((up2_o hV22 (by decide)).trans (up2_o hV20 (by decide)))))))))) (by rw [((up2_o hV106 (by decide)).trans ((up2_o hV95 (by decide)).trans ((up2_o hV99 (by decide)).trans ((up2_o hV69 (by decide)).trans ((up2_o hV67 (by decide)).trans ((up2_o hV17 (by decide)).trans ((up2_k hV22 (by decide)).trans (up2_o hV20 (by decide)))))))))]; exact Int.le_refl _) ((up2_o hV106 (by decide)).trans ((up2_o hV95 (by decide)).trans ((up2_o hV99 (by decide)).trans ((up2_o hV69 (by decide)).trans ((up2_o hV67 (by decide)).trans ((up2_o hV17 (by decide)).trans ((up2_k hV22 (by decide)).trans (up2_o hV20 (by decide)))))))))
      have rn7 : RWn V106 ow gB (mDone gm (V 70 gf).toInt.toNat) := RWn.done rn (show (((V 70 gf).toInt.toNat : Nat) : Int) < gm 0 2 from by omega) h30 (fun x9 hx9 => ((up2_o hV106 (by decide)).trans ((up2_o hV95 (by decide)).trans ((up2_o hV99 (by decide)).trans ((up2_o hV69 (by decide)).trans ((up2_o hV67 (by decide)).trans ((up2_o hV17 (by decide)).trans ((up2_o hV22 (by decide)).trans (up2_k hV20 (by omega)))))))))) (by show (V106 28 (Int32.toNatClampNeg (V 70 gf))).toInt = 1; rw [((up2_o hV106 (by decide)).trans ((up2_o hV95 (by decide)).trans ((up2_o hV99 (by decide)).trans ((up2_o hV69 (by decide)).trans ((up2_o hV67 (by decide)).trans ((up2_o hV17 (by decide)).trans ((up2_o hV22 (by decide)).trans (up2_s hV20))))))))]; decide) (fun x9 hx9 => ((up2_o hV106 (by decide)).trans ((up2_o hV95 (by decide)).trans ((up2_o hV99 (by decide)).trans ((up2_o hV69 (by decide)).trans ((up2_o hV67 (by decide)).trans ((up2_k hV17 (by omega)).trans ((up2_o hV22 (by decide)).trans (up2_o hV20 (by decide)))))))))) (by show (V106 29 (Int32.toNatClampNeg (V 70 gf))).toInt = (V 3 14).toInt; rw [((up2_o hV106 (by decide)).trans ((up2_o hV95 (by decide)).trans ((up2_o hV99 (by decide)).trans ((up2_o hV69 (by decide)).trans ((up2_o hV67 (by decide)).trans (up2_s hV17))))))]) (by have h9 := congrArg Int32.toInt (((up2_o hV106 (by decide)).trans ((up2_o hV95 (by decide)).trans ((up2_o hV99 (by decide)).trans ((up2_o hV69 (by decide)).trans ((up2_o hV67 (by decide)).trans ((up2_o hV17 (by decide)).trans (up2_s hV22)))))))); omega) (fun c9 k9 h1 h2 h3 h4 h5 => ((show V106 c9 k9 = V95 c9 k9 from by rw [hV106]; exact up2_pl (by omega)).trans ((show V95 c9 k9 = V99 c9 k9 from by rw [hV95]; exact up2_pl (by omega)).trans ((show V99 c9 k9 = V69 c9 k9 from by rw [hV99]; exact up2_pl (by omega)).trans ((show V69 c9 k9 = V67 c9 k9 from by rw [hV69]; exact up2_pl (by omega)).trans ((show V67 c9 k9 = V17 c9 k9 from by rw [hV67]; exact up2_pl (by omega)).trans ((show V17 c9 k9 = V22 c9 k9 from by rw [hV17]; exact up2_pl (by omega)).trans ((show V22 c9 k9 = V20 c9 k9 from by rw [hV22]; exact up2_pl (by omega)).trans (show V20 c9 k9 = V c9 k9 from by rw [hV20]; exact up2_pl (by omega))))))))))
      have rn6 : RWn V106 ow gB (mU (mDone gm (V 70 gf).toInt.toNat) 0 6 1) := RWn.mv rn7 (fun j9 hj9 => mU_06 (Or.inr (by omega))) (fun x9 j9 hx9 _ => mU_06 (Or.inl hx9)) (fun _ => rfl) rfl rfl rfl (fun _ _ _ _ _ => rfl)
      have m04 : (mU (mDone gm (V 70 gf).toInt.toNat) 0 6 1) 0 4 = gm 0 4 + 1 := by rw [mU_06 (Or.inr (by decide))]; unfold mDone; rw [mU_s]
      have m5 : ∀ j9, (mU (mDone gm (V 70 gf).toInt.toNat) 0 6 1) 5 j9 = if j9 = (gm 0 4).toNat then (((V 70 gf).toInt.toNat : Nat) : Int) else gm 5 j9 := fun j9 => by rw [mU_06 (Or.inl (by decide))]; unfold mDone; rw [mU_o _ _ (by omega)]; by_cases h9 : j9 = (gm 0 4).toNat; (rw [if_pos h9, h9, mU_s]); (rw [if_neg h9, mU_o _ _ (by omega), mU_o _ _ (by omega), mU_o _ _ (by omega), mU_o _ _ (by omega)])
      have ix8 : (Int32.toNatClampNeg (V 5 8)) = (gm 0 4).toNat := by have h9 := i_clamp (x := V 5 8) rfl (by (first | exact om_eafa9039069c r2.1 | omega)); omega
      have rz9 : RW V106 gB ((mU (mDone gm (V 70 gf).toInt.toNat) 0 6 1), (nI (V 70 gf).toInt.toNat), gr) := ⟨⟨ow, rn6⟩, ⟨(by show _ = (mU (mDone gm (V 70 gf).toInt.toNat) 0 6 1) 0 6; rw [mU_s]; omega), (fun _ => ((up2_k hV106 (by decide)).trans (up2_s hV95)).trans (nI_cl (x := V 70 gf) (by omega)).symm), (fun h9 => by have h8 : (mU (mDone gm (V 70 gf).toInt.toNat) 0 6 1) 0 6 = 2 := h9; rw [mU_s] at h8; exact absurd h8 (by decide)), (by show _ = (mU (mDone gm (V 70 gf).toInt.toNat) 0 6 1) 0 4; rw [m04]; omega), fun i9 hi9 => by have h8 : (i9 : Int) < (mU (mDone gm (V 70 gf).toInt.toNat) 0 6 1) 0 4 := hi9; rw [m04] at h8; show _ = (mU (mDone gm (V 70 gf).toInt.toNat) 0 6 1) 5 i9; rw [m5]; by_cases h7 : i9 = (gm 0 4).toNat; (rw [if_pos h7, h7, ← ix8, ((up2_o hV106 (by decide)).trans ((up2_o hV95 (by decide)).trans ((up2_o hV99 (by decide)).trans (up2_s hV69))))]; omega); (rw [if_neg h7, ((up2_o hV106 (by decide)).trans ((up2_o hV95 (by decide)).trans ((up2_o hV99 (by decide)).trans ((up2_k hV69 (by rw [ix8]; exact h7)).trans ((up2_o hV67 (by decide)).trans ((up2_o hV17 (by decide)).trans ((up2_o hV22 (by decide)).trans (up2_o hV20 (by decide)))))))))]; exact rh.2.2.2.2 i9 (by omega))⟩, (show (V106 5 6).toInt = ((gr.length : Nat) : Int) from by (first | exact om_f00ff43a6068 rd2 pq100 hz110 pq120 | omega)), t0, (show (V106 5 7).toInt = ((t0 : Nat) : Int) from by rw [((up2_k hV106 (by decide)).trans ((up2_k hV95 (by decide)).trans ((up2_k hV99 (by decide)).trans ((up2_o hV69 (by decide)).trans ((up2_k hV67 (by decide)).trans ((up2_o hV17 (by decide)).trans ((up2_o hV22 (by decide)).trans (up2_o hV20 (by decide))))))))), rt9, tz9]), rl131⟩
      exact W.vret hx hb hr (fun t ht hW => ⟨⟨(V106, L), rfl, ⟨hMV106, agV106, rfl, rp127, rz9⟩, by rw [ht]; exact hP, va_K.moved hW.alike hK, hD⟩, hS.F ht⟩) hS.2.2 dX5_finish_53
  · skip
    have hf : FRc V gB gf (Fopen lv o c pl) := by rw [← hfe]; exact hf0
    have tl8 : tw9 = t0 + (Fopen lv o c pl : Fr).2.2.2.length := by rw [← hfe]; exact tl9
    obtain ⟨⟨k67, k68⟩, hoc⟩ := hf
    obtain ⟨q69, ⟨q70, o0, o1⟩, ⟨q71, c0, c1⟩, ⟨q72, s0, s1⟩⟩ := hoc
    have cn9 : c.toNat < nC gB := by omega
    have kc9 : Int32.toNatClampNeg (V 71 gf) = c.toNat := by have h9 := i_clamp (x := V 71 gf) rfl (by omega); omega
    have ko9 : Int32.toNatClampNeg (V 70 gf) = o.toNat := by have h9 := i_clamp (x := V 70 gf) rfl (by omega); omega
    have kp9 : Int32.toNatClampNeg (V 72 gf) = pl.toNat := by have h9 := i_clamp (x := V 72 gf) rfl (by omega); omega
    have tz9 : tw9 = t0 := tl8
    have rh8 : (V 5 8).toInt = gm 0 4 := rh.2.2.2.1
    refine lv_aload_n hx hb dX5_finish_0 rfl (lv_at hl 0 rfl) ?_
    refine va_get (D := D) (ci := 5) (v := .ref (ad 3)) (fs := (xfMachine ad V L Z)) (C := RX5) (T := TX5) (N := 15) hx hb hg inX5 hown hK hP 5 xgMachine rfl 0 (by decide) (hg _ w667) (fun _ h9 => h9) rfl dX5_finish_1 ?_
    refine lv_aload_n hx hb dX5_finish_4 rfl (lv_at hl 1 rfl) ?_
    refine va_getN (D := D) (ci := 4) (v := .int (V 70 gf)) (fs := (xfFrame V gf)) (C := RX4) (T := TX4) (N := 19) hx hb hg inX4 hown hK hP (336 + gf) (xgFrame hgf) rfl 3 (by decide) (hnw.use 1192 n1192 rfl) (fun _ h9 => h9) rfl dX5_finish_5 ?_
    refine gA_void (gA_runV (As := [.int (V 70 gf)]) (rest := []) (ci := 8) (q0 := 3) hx hb hml hown hg hP hD hK hS hA hnw hgk (x_finishObject9 l D ks H.size ad kk V L Z (V 70 gf) hMV (by first | omega | ((try (have i_h30 := Imp.go h30 (by omega))); (try (have i_bc := Imp.go bc (by omega))); (try (have i_rwq := Imp.go rwq (by omega))); (try (have i_mo := Imp.go mo (by omega))); first | omega | ((try (have i_mo := Imp.go mo (by omega))); (try (have i_rwq := Imp.go rwq (by omega))); (try (have i_bc := Imp.go bc (by omega))); (try (have i_h30 := Imp.go h30 (by omega))); omega)))) w1348 w1349 w1350 w164 w1351 rfl xgStock hdV_yX8_finishObject ⟨Nat.le_of_ble_eq_true rfl, Nat.le_of_ble_eq_true rfl⟩ rfl hl.1 rfl (Nat.le_of_ble_eq_true rfl) dX5_finish_8 ⟨Nat.le_of_ble_eq_true rfl, Nat.le_of_ble_eq_true rfl⟩) hP hD hK hS hA (fun u133 H locs w134 hP hD hK hS => ?_)
    obtain ⟨V136, L137⟩ := u133
    obtain ⟨hMV136, ajV136, axL137, t135⟩ := w134
    have axL137 : L = L137 := Eq.symm axL137
    subst axL137
    have hP : va_P D vwCl (xw ad kk V136 L Z) H := hP
    have hD : va_D A (xw ad kk V136 L Z) := hD
    have hMV136 : rgd bX V136 := hMV136
    have ajV136 : agr [(3, 14)] [28, 29] V V136 := ajV136
    have agV136 : agr [(3, 14), (5, 6), (5, 8), (5, 9), (5, 10)] [28, 29, 40] V V136 := agV.tr ajV136 (by decide) (by decide)
    have t135 : ((True) ∧ V136 = (up2 (up2 (up2 V 28 (Int32.toNatClampNeg (V 70 gf)) 1) 3 14 (V 3 14 + 1)) 29 (Int32.toNatClampNeg (V 70 gf)) (V 3 14))) := t135
    have hw138 := t135.2
    obtain ⟨V139, hV139⟩ : ∃ z, z = up2 V 28 (Int32.toNatClampNeg (V 70 gf)) 1 := ⟨_, rfl⟩
    obtain ⟨z140, ez140⟩ : ∃ y : Int32, y = V 3 14 + 1 := ⟨_, rfl⟩
    have hz140 : z140.toInt = (V 3 14).toInt + 1 := i_add ez140 rfl (by decide) (by first | exact om_5b8d680fa6e8 en0 en1 | first | omega | ((try (have i_h30 := Imp.go h30 (by omega))); (try (have i_bc := Imp.go bc (by omega))); (try (have i_rwq := Imp.go rwq (by omega))); (try (have i_mo := Imp.go mo (by omega))); first | omega | ((try (have i_mo := Imp.go mo (by omega))); (try (have i_rwq := Imp.go rwq (by omega))); (try (have i_bc := Imp.go bc (by omega))); (try (have i_h30 := Imp.go h30 (by omega))); omega)))
    obtain ⟨V141, hV141⟩ : ∃ z, z = up2 V139 3 14 z140 := ⟨_, rfl⟩
    have hV136 : V136 = up2 V141 29 (Int32.toNatClampNeg (V 70 gf)) (V 3 14) := by rw [hw138, hV141, hV139, ez140]
    refine lv_aload_n hx hb dX5_finish_11 rfl (lv_at hl 0 rfl) ?_
    refine va_get (D := D) (ci := 5) (v := .int (V136 5 8)) (fs := (xfMachine ad V136 L Z)) (C := RX5) (T := TX5) (N := 15) hx hb hg inX5 hown hK hP 5 xgMachine rfl 8 (by decide) (hg _ w675) (fun _ h9 => h9) rfl dX5_finish_12 ?_
    refine g_top (v := (V 5 8)) ((up2_o hV136 (by decide)).trans ((up2_o hV141 (by decide)).trans (up2_o hV139 (by decide)))) ?_
    refine lv_sipush (v := 300) hx hb dX5_finish_15 (by decide) ?_
    refine lv_icmp_ge (tgt := 41) hx hb dX5_finish_18 (by decide) (fun c142 => ?_) (fun c142 => ?_)
    · skip
      have f143 : 300 ≤ ((V 5 8)).toInt := b_le (by decide) rfl c142
      refine lv_aload_n hx hb dX5_finish_41 rfl (lv_at hl 0 rfl) ?_
      refine lv_aload_n hx hb dX5_finish_42 rfl (lv_at hl 1 rfl) ?_
      refine va_getN (D := D) (ci := 4) (v := .int (V136 70 gf)) (fs := (xfFrame V136 gf)) (C := RX4) (T := TX4) (N := 19) hx hb hg inX4 hown hK hP (336 + gf) (xgFrame hgf) rfl 3 (by decide) (hnw.use 1192 n1192 rfl) (fun _ h9 => h9) rfl dX5_finish_43 ?_
      refine g_top (v := (V 70 gf)) ((up2_o hV136 (by decide)).trans ((up2_o hV141 (by decide)).trans (up2_o hV139 (by decide)))) ?_
      refine gA_void (gA_runV (As := [.int (V 70 gf)]) (rest := []) (ci := 5) (q0 := 5) hx hb hml hown hg hP hD hK hS hA hnw hgk (x_answerWith9 l D ks H.size ad kk V136 L Z (V 70 gf) hMV136 ) w1304 w1306 w49 w171 w1307 rfl xgMachine hdV_yX5_answerWith ⟨Nat.le_of_ble_eq_true rfl, Nat.le_of_ble_eq_true rfl⟩ rfl hl.1 rfl (Nat.le_of_ble_eq_true rfl) dX5_finish_46 ⟨Nat.le_of_ble_eq_true rfl, Nat.le_of_ble_eq_true rfl⟩) hP hD hK hS hA (fun u145 H locs w146 hP hD hK hS => ?_)
      obtain ⟨V150, L151⟩ := u145
      obtain ⟨hMV150, ajV150, axL151, t147, t148, t149⟩ := w146
      have axL151 : L = L151 := Eq.symm axL151
      subst axL151
      have hP : va_P D vwCl (xw ad kk V150 L Z) H := hP
      have hD : va_D A (xw ad kk V150 L Z) := hD
      have hMV150 : rgd bX V150 := hMV150
      have ajV150 : agr [(5, 9), (5, 10)] [] V136 V150 := ajV150
      have agV150 : agr [(3, 14), (5, 6), (5, 8), (5, 9), (5, 10)] [28, 29, 40] V V150 := agV136.tr ajV150 (by decide) (by decide)
      have t147 : (V150 5 9).toInt = 1 := t147
      have t148 : (V150 5 10).toInt = ((V 70 gf)).toInt := t148
      have t149 : ((True) ∧ V150 = (up2 (up2 V136 5 9 1) 5 10 (V 70 gf))) := t149
      have r152 : 0 ≤ ((V150 5 9)).toInt ∧ ((V150 5 9)).toInt ≤ 3 := hMV150 5 9
      have hw153 := t149.2
      obtain ⟨V154, hV154⟩ : ∃ z, z = up2 V136 5 9 1 := ⟨_, rfl⟩
      have hV150 : V150 = up2 V154 5 10 (V 70 gf) := by rw [hw153, hV154]
      refine lv_aload_n hx hb dX5_finish_49 rfl (lv_at hl 0 rfl) ?_
      have pq155 : (V150 5 6).toInt = ((V 5 6)).toInt := congrArg Int32.toInt ((up2_k hV150 (by decide)).trans ((up2_k hV154 (by decide)).trans ((up2_o hV136 (by decide)).trans ((up2_o hV141 (by decide)).trans (up2_o hV139 (by decide))))))
      refine gA_void (gA_runV (As := []) (rest := []) (ci := 5) (q0 := 5) hx hb hml hown hg hP hD hK hS hA hnw hgk (x_leave9 l D ks H.size ad kk V150 L Z  hMV150 (show 1 ≤ (V150 5 6).toInt from by first | omega | ((try (have i_h30 := Imp.go h30 (by omega))); (try (have i_bc := Imp.go bc (by omega))); (try (have i_rwq := Imp.go rwq (by omega))); (try (have i_mo := Imp.go mo (by omega))); first | omega | ((try (have i_mo := Imp.go mo (by omega))); (try (have i_rwq := Imp.go rwq (by omega))); (try (have i_bc := Imp.go bc (by omega))); (try (have i_h30 := Imp.go h30 (by omega))); omega)))) w1308 w1310 w50 w171 w1311 rfl xgMachine hdV_yX5_leave ⟨Nat.le_of_ble_eq_true rfl, Nat.le_of_ble_eq_true rfl⟩ rfl hl.1 rfl (Nat.le_of_ble_eq_true rfl) dX5_finish_50 ⟨Nat.le_of_ble_eq_true rfl, Nat.le_of_ble_eq_true rfl⟩) hP hD hK hS hA (fun u157 H locs w158 hP hD hK hS => ?_)
      obtain ⟨V161, L162⟩ := u157
      obtain ⟨hMV161, ajV161, axL162, t159, t160⟩ := w158
      have axL162 : L = L162 := Eq.symm axL162
      subst axL162
      have hP : va_P D vwCl (xw ad kk V161 L Z) H := hP
      have hD : va_D A (xw ad kk V161 L Z) := hD
      have hMV161 : rgd bX V161 := hMV161
      have ajV161 : agr [(5, 6)] [] V150 V161 := ajV161
      have agV161 : agr [(3, 14), (5, 6), (5, 8), (5, 9), (5, 10)] [28, 29, 40] V V161 := agV150.tr ajV161 (by decide) (by decide)
      have t159 : (V161 5 6).toInt = (V150 5 6).toInt - 1 := t159
      have t160 : ((True) ∧ V161 = (up2 V150 5 6 (V150 5 6 - 1))) := t160
      have r163 : 0 ≤ ((V161 5 6)).toInt ∧ ((V161 5 6)).toInt ≤ 400 := hMV161 5 6
      have hw164 := t160.2
      obtain ⟨z165, ez165⟩ : ∃ y : Int32, y = V150 5 6 - 1 := ⟨_, rfl⟩
      have hz165 : z165.toInt = (V150 5 6).toInt - 1 := i_sub ez165 rfl (by decide) (by first | omega | ((try (have i_h30 := Imp.go h30 (by omega))); (try (have i_bc := Imp.go bc (by omega))); (try (have i_rwq := Imp.go rwq (by omega))); (try (have i_mo := Imp.go mo (by omega))); first | omega | ((try (have i_mo := Imp.go mo (by omega))); (try (have i_rwq := Imp.go rwq (by omega))); (try (have i_bc := Imp.go bc (by omega))); (try (have i_h30 := Imp.go h30 (by omega))); omega)))
      have hV161 : V161 = up2 V150 5 6 z165 := by rw [hw164, ez165]
      have me166 : ME V V161 gf := (ME.up (ME.up (ME.up (ME.up (ME.up (ME.up ME.rf hV139 (Or.inr (by omega))) hV141 (Or.inr (by omega))) hV136 (Or.inr (by omega))) hV154 (Or.inr (by omega))) hV150 (Or.inr (by omega))) hV161 (Or.inr (by omega)))
      have pq167 : (V161 67 gf).toInt = ((V 67 gf)).toInt := congrArg Int32.toInt ((up2_o hV161 (by decide)).trans ((up2_o hV150 (by decide)).trans ((up2_o hV154 (by decide)).trans ((up2_o hV136 (by decide)).trans ((up2_o hV141 (by decide)).trans (up2_o hV139 (by decide)))))))
      have pq168 : (V161 68 gf).toInt = ((V 68 gf)).toInt := congrArg Int32.toInt ((up2_o hV161 (by decide)).trans ((up2_o hV150 (by decide)).trans ((up2_o hV154 (by decide)).trans ((up2_o hV136 (by decide)).trans ((up2_o hV141 (by decide)).trans (up2_o hV139 (by decide)))))))
      have pq169 : (V161 70 gf).toInt = ((V 70 gf)).toInt := congrArg Int32.toInt ((up2_o hV161 (by decide)).trans ((up2_o hV150 (by decide)).trans ((up2_o hV154 (by decide)).trans ((up2_o hV136 (by decide)).trans ((up2_o hV141 (by decide)).trans (up2_o hV139 (by decide)))))))
      have pq170 : (V161 71 gf).toInt = ((V 71 gf)).toInt := congrArg Int32.toInt ((up2_o hV161 (by decide)).trans ((up2_o hV150 (by decide)).trans ((up2_o hV154 (by decide)).trans ((up2_o hV136 (by decide)).trans ((up2_o hV141 (by decide)).trans (up2_o hV139 (by decide)))))))
      have pq171 : (V161 75 gf).toInt = ((V 75 gf)).toInt := congrArg Int32.toInt ((up2_o hV161 (by decide)).trans ((up2_o hV150 (by decide)).trans ((up2_o hV154 (by decide)).trans ((up2_o hV136 (by decide)).trans ((up2_o hV141 (by decide)).trans (up2_o hV139 (by decide)))))))
      have pq172 : (V161 76 gf).toInt = ((V 76 gf)).toInt := congrArg Int32.toInt ((up2_o hV161 (by decide)).trans ((up2_o hV150 (by decide)).trans ((up2_o hV154 (by decide)).trans ((up2_o hV136 (by decide)).trans ((up2_o hV141 (by decide)).trans (up2_o hV139 (by decide)))))))
      have pq173 : (V161 80 gf).toInt = ((V 80 gf)).toInt := congrArg Int32.toInt ((up2_o hV161 (by decide)).trans ((up2_o hV150 (by decide)).trans ((up2_o hV154 (by decide)).trans ((up2_o hV136 (by decide)).trans ((up2_o hV141 (by decide)).trans (up2_o hV139 (by decide)))))))
      have pq174 : (V161 84 gf).toInt = ((V 84 gf)).toInt := congrArg Int32.toInt ((up2_o hV161 (by decide)).trans ((up2_o hV150 (by decide)).trans ((up2_o hV154 (by decide)).trans ((up2_o hV136 (by decide)).trans ((up2_o hV141 (by decide)).trans (up2_o hV139 (by decide)))))))
      have pq175 : (V161 5 6).toInt = z165.toInt := congrArg Int32.toInt (up2_s hV161)
      have pq176 : (V161 5 8).toInt = ((V 5 8)).toInt := congrArg Int32.toInt ((up2_k hV161 (by decide)).trans ((up2_k hV150 (by decide)).trans ((up2_k hV154 (by decide)).trans ((up2_o hV136 (by decide)).trans ((up2_o hV141 (by decide)).trans (up2_o hV139 (by decide)))))))
      have pq177 : (V161 5 9).toInt = 1 := (congrArg Int32.toInt ((up2_k hV161 (by decide)).trans ((up2_k hV150 (by decide)).trans (up2_s hV154)))).trans (by decide)
      have pq178 : (V161 3 13).toInt = ((V 3 13)).toInt := congrArg Int32.toInt ((up2_o hV161 (by decide)).trans ((up2_o hV150 (by decide)).trans ((up2_o hV154 (by decide)).trans ((up2_o hV136 (by decide)).trans ((up2_k hV141 (by decide)).trans (up2_o hV139 (by decide)))))))
      have pq179 : (V161 43 (5 * b + 2)).toInt = ((V 43 (5 * b + 2))).toInt := congrArg Int32.toInt ((up2_o hV161 (by decide)).trans ((up2_o hV150 (by decide)).trans ((up2_o hV154 (by decide)).trans ((up2_o hV136 (by decide)).trans ((up2_o hV141 (by decide)).trans (up2_o hV139 (by decide)))))))
      have pq180 : (V161 42 b).toInt = ((V 42 b)).toInt := congrArg Int32.toInt ((up2_o hV161 (by decide)).trans ((up2_o hV150 (by decide)).trans ((up2_o hV154 (by decide)).trans ((up2_o hV136 (by decide)).trans ((up2_o hV141 (by decide)).trans (up2_o hV139 (by decide)))))))
      have pq181 : (V161 41 b).toInt = ((V 41 b)).toInt := congrArg Int32.toInt ((up2_o hV161 (by decide)).trans ((up2_o hV150 (by decide)).trans ((up2_o hV154 (by decide)).trans ((up2_o hV136 (by decide)).trans ((up2_o hV141 (by decide)).trans (up2_o hV139 (by decide)))))))
      have rp182 : MJ V161 Z b := MP.lv (MO.mp mo) me166 (by omega) (fun _ => Or.inl (by omega))
      exact W.vret hx hb hr (fun t ht hW => ⟨⟨(V161, L), rfl, ⟨hMV161, agV161, rfl, rp182, (by exfalso; (first | exact om_455978680aa0 md8 f143 | omega))⟩, by rw [ht]; exact hP, va_K.moved hW.alike hK, hD⟩, hS.F ht⟩) hS.2.2 dX5_finish_53
    · skip
      have f184 : ((V 5 8)).toInt < 300 := b_nle (by decide) rfl c142
      refine lv_aload_n hx hb dX5_finish_21 rfl (lv_at hl 0 rfl) ?_
      refine va_get (D := D) (ci := 5) (v := .ref (ad 37)) (fs := (xfMachine ad V136 L Z)) (C := RX5) (T := TX5) (N := 15) hx hb hg inX5 hown hK hP 5 xgMachine rfl 4 (by decide) (hg _ w671) (fun _ h9 => h9) rfl dX5_finish_22 ?_
      refine lv_aload_n hx hb dX5_finish_25 rfl (lv_at hl 0 rfl) ?_
      refine lv_dup hx hb dX5_finish_26 rfl ?_
      refine va_get (D := D) (ci := 5) (v := .int (V136 5 8)) (fs := (xfMachine ad V136 L Z)) (C := RX5) (T := TX5) (N := 15) hx hb hg inX5 hown hK hP 5 xgMachine rfl 8 (by decide) (hg _ w675) (fun _ h9 => h9) rfl dX5_finish_27 ?_
      refine g_top (v := (V 5 8)) ((up2_o hV136 (by decide)).trans ((up2_o hV141 (by decide)).trans (up2_o hV139 (by decide)))) ?_
      refine lv_dup_x1 hx hb dX5_finish_30 rfl rfl ?_
      refine lv_iconst (v := 1) hx hb dX5_finish_31 (by decide) ?_
      refine lv_iadd hx hb dX5_finish_32 ?_
      refine lv_topi (fun z185 ez185 => ?_)
      have hz185 : z185.toInt = ((V 5 8)).toInt + 1 := i_add ez185 rfl (by decide) (by (first | exact om_760427d6503a md8 r2.1 | omega))
      refine va_put (D := D) (ci := 5) (v := .int z185) (ty := tyX5 8) (fs := (xfMachine ad V136 L Z)) (C := RX5) (T := TX5) (N := 15) hx hb hg inX5 tyX5 tyX5_ok nmX5 hown hK hP hD hS 5 xgMachine rfl 8 (by decide) (hg _ w675) (fun _ h9 => h9) rfl (tyX5_ok 8 (by decide)) rfl rfl (Nat.le_of_ble_eq_true rfl) dX5_finish_33 (fun H locs hP hD hS => ?_)
      obtain ⟨V186, hV186⟩ : ∃ z, z = up2 V136 5 8 z185 := ⟨_, rfl⟩
      have ew187 : (xw ad kk V136 L Z).set 5 ((ad 5), .inr (5, (xfMachine ad V136 L Z).set 8 (.int z185))) = xw ad kk V186 L Z := by rw [hV186]; exact xw_ss (by decide) rfl (xb_si (by decide))
      have hP : va_P D vwCl (xw ad kk V186 L Z) H := by rw [← ew187]; exact hP
      have hD : va_D A (xw ad kk V186 L Z) := by rw [← ew187]; exact hD
      have hMV186 : rgd bX V186 := hMV136.put hV186 (show 0 ≤ z185.toInt ∧ z185.toInt ≤ 300 from by first | exact om_df904983c185 md8 r2.1 hz185 | first | omega | ((try (have i_h30 := Imp.go h30 (by omega))); (try (have i_bc := Imp.go bc (by omega))); (try (have i_rwq := Imp.go rwq (by omega))); (try (have i_mo := Imp.go mo (by omega))); first | omega | ((try (have i_mo := Imp.go mo (by omega))); (try (have i_rwq := Imp.go rwq (by omega))); (try (have i_bc := Imp.go bc (by omega))); (try (have i_h30 := Imp.go h30 (by omega))); omega)))
      have agV186 : agr [(3, 14), (5, 6), (5, 8), (5, 9), (5, 10)] [28, 29, 40] V V186 := agV136.up hV186 rfl
      refine lv_aload_n hx hb dX5_finish_36 rfl (lv_at hl 1 rfl) ?_
      refine va_getN (D := D) (ci := 4) (v := .int (V186 70 gf)) (fs := (xfFrame V186 gf)) (C := RX4) (T := TX4) (N := 19) hx hb hg inX4 hown hK hP (336 + gf) (xgFrame hgf) rfl 3 (by decide) (hnw.use 1192 n1192 rfl) (fun _ h9 => h9) rfl dX5_finish_37 ?_
      refine g_top (v := (V 70 gf)) ((up2_o hV186 (by decide)).trans ((up2_o hV136 (by decide)).trans ((up2_o hV141 (by decide)).trans (up2_o hV139 (by decide))))) ?_
      refine va_iast (D := D) (i := (V 5 8)) (x := (V 70 gf)) hx hb hK hP hD hS 37 30 rfl rfl (i_in (a := ((V 5 8)).toInt) rfl (by first | exact om_1ef2a0549dee md8 r2.1 | first | omega | ((try (have i_h30 := Imp.go h30 (by omega))); (try (have i_bc := Imp.go bc (by omega))); (try (have i_rwq := Imp.go rwq (by omega))); (try (have i_mo := Imp.go mo (by omega))); first | omega | ((try (have i_mo := Imp.go mo (by omega))); (try (have i_rwq := Imp.go rwq (by omega))); (try (have i_bc := Imp.go bc (by omega))); (try (have i_h30 := Imp.go h30 (by omega))); omega)))) dX5_finish_40 (fun H locs hP hD hS => ?_)
      obtain ⟨V188, hV188⟩ : ∃ z, z = up2 V186 40 (Int32.toNatClampNeg (V 5 8)) (V 70 gf) := ⟨_, rfl⟩
      have ew189 : (xw ad kk V186 L Z).set 37 ((ad 37), .inl ((kk 37), 300, .inl (upd (V186 40) (Int32.toNatClampNeg (V 5 8)) (V 70 gf)))) = xw ad kk V188 L Z := by rw [hV188]; exact xw_ss (by decide) rfl (xb_si (by decide))
      have hP : va_P D vwCl (xw ad kk V188 L Z) H := by rw [← ew189]; exact hP
      have hD : va_D A (xw ad kk V188 L Z) := by rw [← ew189]; exact hD
      have hMV188 : rgd bX V188 := hMV186.put hV188 (show 0 ≤ ((V 70 gf)).toInt ∧ ((V 70 gf)).toInt ≤ 299 from by first | omega | ((try (have i_h30 := Imp.go h30 (by omega))); (try (have i_bc := Imp.go bc (by omega))); (try (have i_rwq := Imp.go rwq (by omega))); (try (have i_mo := Imp.go mo (by omega))); first | omega | ((try (have i_mo := Imp.go mo (by omega))); (try (have i_rwq := Imp.go rwq (by omega))); (try (have i_bc := Imp.go bc (by omega))); (try (have i_h30 := Imp.go h30 (by omega))); omega)))
      have agV188 : agr [(3, 14), (5, 6), (5, 8), (5, 9), (5, 10)] [28, 29, 40] V V188 := agV186.up hV188 rfl
      have me190 : ME V V136 gf := (ME.up (ME.up (ME.up ME.rf hV139 (Or.inr (by omega))) hV141 (Or.inr (by omega))) hV136 (Or.inr (by omega)))
      have pq191 : (V136 67 gf).toInt = ((V 67 gf)).toInt := congrArg Int32.toInt ((up2_o hV136 (by decide)).trans ((up2_o hV141 (by decide)).trans (up2_o hV139 (by decide))))
      have pq192 : (V136 68 gf).toInt = ((V 68 gf)).toInt := congrArg Int32.toInt ((up2_o hV136 (by decide)).trans ((up2_o hV141 (by decide)).trans (up2_o hV139 (by decide))))
      have pq193 : (V136 70 gf).toInt = ((V 70 gf)).toInt := congrArg Int32.toInt ((up2_o hV136 (by decide)).trans ((up2_o hV141 (by decide)).trans (up2_o hV139 (by decide))))
      have pq194 : (V136 71 gf).toInt = ((V 71 gf)).toInt := congrArg Int32.toInt ((up2_o hV136 (by decide)).trans ((up2_o hV141 (by decide)).trans (up2_o hV139 (by decide))))
      have pq195 : (V136 75 gf).toInt = ((V 75 gf)).toInt := congrArg Int32.toInt ((up2_o hV136 (by decide)).trans ((up2_o hV141 (by decide)).trans (up2_o hV139 (by decide))))
      have pq196 : (V136 76 gf).toInt = ((V 76 gf)).toInt := congrArg Int32.toInt ((up2_o hV136 (by decide)).trans ((up2_o hV141 (by decide)).trans (up2_o hV139 (by decide))))
      have pq197 : (V136 80 gf).toInt = ((V 80 gf)).toInt := congrArg Int32.toInt ((up2_o hV136 (by decide)).trans ((up2_o hV141 (by decide)).trans (up2_o hV139 (by decide))))
      have pq198 : (V136 84 gf).toInt = ((V 84 gf)).toInt := congrArg Int32.toInt ((up2_o hV136 (by decide)).trans ((up2_o hV141 (by decide)).trans (up2_o hV139 (by decide))))
      have pq199 : (V136 5 6).toInt = ((V 5 6)).toInt := congrArg Int32.toInt ((up2_o hV136 (by decide)).trans ((up2_o hV141 (by decide)).trans (up2_o hV139 (by decide))))
      have pq200 : (V136 5 8).toInt = ((V 5 8)).toInt := congrArg Int32.toInt ((up2_o hV136 (by decide)).trans ((up2_o hV141 (by decide)).trans (up2_o hV139 (by decide))))
      have pq201 : (V136 5 9).toInt = ((V 5 9)).toInt := congrArg Int32.toInt ((up2_o hV136 (by decide)).trans ((up2_o hV141 (by decide)).trans (up2_o hV139 (by decide))))
      have pq202 : (V136 3 13).toInt = ((V 3 13)).toInt := congrArg Int32.toInt ((up2_o hV136 (by decide)).trans ((up2_k hV141 (by decide)).trans (up2_o hV139 (by decide))))
      have pq203 : (V136 43 (5 * b + 2)).toInt = ((V 43 (5 * b + 2))).toInt := congrArg Int32.toInt ((up2_o hV136 (by decide)).trans ((up2_o hV141 (by decide)).trans (up2_o hV139 (by decide))))
      have pq204 : (V136 42 b).toInt = ((V 42 b)).toInt := congrArg Int32.toInt ((up2_o hV136 (by decide)).trans ((up2_o hV141 (by decide)).trans (up2_o hV139 (by decide))))
      have pq205 : (V136 41 b).toInt = ((V 41 b)).toInt := congrArg Int32.toInt ((up2_o hV136 (by decide)).trans ((up2_o hV141 (by decide)).trans (up2_o hV139 (by decide))))
      have mo206 : MO V136 Z b gf False False False := MO.ch mo me190 ((up2_o hV136 (by decide)).trans ((up2_o hV141 (by decide)).trans (up2_o hV139 (by decide)))) ((up2_o hV136 (by decide)).trans ((up2_o hV141 (by decide)).trans (up2_o hV139 (by decide)))) (fun _ => Or.inl (by omega)) (fun x h => FK.s1 h (by omega) (by omega) (by omega) (by omega) (by omega) (fun z => z.elim))
      have kmd := i_clamp (x := (V 5 8)) rfl (by (first | exact om_eafa9039069c r2.1 | omega))
      have mp207 : MP V188 Z b gf True := MO.made mo206 (by (first | exact om_ed616bc53b7b gk pq191 | omega)) hV186 hV188 (by (first | exact om_1e933ee011dc hz185 pq200 | omega)) (by (first | exact om_2fd0a1c2005b pq200 kmd | omega)) (by omega)
      refine lv_aload_n hx hb dX5_finish_41 rfl (lv_at hl 0 rfl) ?_
      refine lv_aload_n hx hb dX5_finish_42 rfl (lv_at hl 1 rfl) ?_
      refine va_getN (D := D) (ci := 4) (v := .int (V188 70 gf)) (fs := (xfFrame V188 gf)) (C := RX4) (T := TX4) (N := 19) hx hb hg inX4 hown hK hP (336 + gf) (xgFrame hgf) rfl 3 (by decide) (hnw.use 1192 n1192 rfl) (fun _ h9 => h9) rfl dX5_finish_43 ?_
      refine g_top (v := (V 70 gf)) ((up2_o hV188 (by decide)).trans ((up2_o hV186 (by decide)).trans ((up2_o hV136 (by decide)).trans ((up2_o hV141 (by decide)).trans (up2_o hV139 (by decide)))))) ?_
      refine gA_void (gA_runV (As := [.int (V 70 gf)]) (rest := []) (ci := 5) (q0 := 5) hx hb hml hown hg hP hD hK hS hA hnw hgk (x_answerWith9 l D ks H.size ad kk V188 L Z (V 70 gf) hMV188 ) w1304 w1306 w49 w171 w1307 rfl xgMachine hdV_yX5_answerWith ⟨Nat.le_of_ble_eq_true rfl, Nat.le_of_ble_eq_true rfl⟩ rfl hl.1 rfl (Nat.le_of_ble_eq_true rfl) dX5_finish_46 ⟨Nat.le_of_ble_eq_true rfl, Nat.le_of_ble_eq_true rfl⟩) hP hD hK hS hA (fun u209 H locs w210 hP hD hK hS => ?_)
      obtain ⟨V214, L215⟩ := u209
      obtain ⟨hMV214, ajV214, axL215, t211, t212, t213⟩ := w210
      have axL215 : L = L215 := Eq.symm axL215
      subst axL215
      have hP : va_P D vwCl (xw ad kk V214 L Z) H := hP
      have hD : va_D A (xw ad kk V214 L Z) := hD
      have hMV214 : rgd bX V214 := hMV214
      have ajV214 : agr [(5, 9), (5, 10)] [] V188 V214 := ajV214
      have agV214 : agr [(3, 14), (5, 6), (5, 8), (5, 9), (5, 10)] [28, 29, 40] V V214 := agV188.tr ajV214 (by decide) (by decide)
      have t211 : (V214 5 9).toInt = 1 := t211
      have t212 : (V214 5 10).toInt = ((V 70 gf)).toInt := t212
      have t213 : ((True) ∧ V214 = (up2 (up2 V188 5 9 1) 5 10 (V 70 gf))) := t213
      have r216 : 0 ≤ ((V214 5 9)).toInt ∧ ((V214 5 9)).toInt ≤ 3 := hMV214 5 9
      have hw217 := t213.2
      obtain ⟨V218, hV218⟩ : ∃ z, z = up2 V188 5 9 1 := ⟨_, rfl⟩
      have hV214 : V214 = up2 V218 5 10 (V 70 gf) := by rw [hw217, hV218]
      refine lv_aload_n hx hb dX5_finish_49 rfl (lv_at hl 0 rfl) ?_
      have pq219 : (V214 5 6).toInt = ((V 5 6)).toInt := congrArg Int32.toInt ((up2_k hV214 (by decide)).trans ((up2_k hV218 (by decide)).trans ((up2_o hV188 (by decide)).trans ((up2_k hV186 (by decide)).trans ((up2_o hV136 (by decide)).trans ((up2_o hV141 (by decide)).trans (up2_o hV139 (by decide))))))))
      refine gA_void (gA_runV (As := []) (rest := []) (ci := 5) (q0 := 5) hx hb hml hown hg hP hD hK hS hA hnw hgk (x_leave9 l D ks H.size ad kk V214 L Z  hMV214 (show 1 ≤ (V214 5 6).toInt from by first | exact om_0cac171fa40c gd pq219 | first | omega | ((try (have i_h30 := Imp.go h30 (by omega))); (try (have i_bc := Imp.go bc (by omega))); (try (have i_rwq := Imp.go rwq (by omega))); (try (have i_mo := Imp.go mo (by omega))); first | omega | ((try (have i_mo := Imp.go mo (by omega))); (try (have i_rwq := Imp.go rwq (by omega))); (try (have i_bc := Imp.go bc (by omega))); (try (have i_h30 := Imp.go h30 (by omega))); omega)))) w1308 w1310 w50 w171 w1311 rfl xgMachine hdV_yX5_leave ⟨Nat.le_of_ble_eq_true rfl, Nat.le_of_ble_eq_true rfl⟩ rfl hl.1 rfl (Nat.le_of_ble_eq_true rfl) dX5_finish_50 ⟨Nat.le_of_ble_eq_true rfl, Nat.le_of_ble_eq_true rfl⟩) hP hD hK hS hA (fun u221 H locs w222 hP hD hK hS => ?_)
      obtain ⟨V225, L226⟩ := u221
      obtain ⟨hMV225, ajV225, axL226, t223, t224⟩ := w222
      have axL226 : L = L226 := Eq.symm axL226
      subst axL226
      have hP : va_P D vwCl (xw ad kk V225 L Z) H := hP
      have hD : va_D A (xw ad kk V225 L Z) := hD
      have hMV225 : rgd bX V225 := hMV225
      have ajV225 : agr [(5, 6)] [] V214 V225 := ajV225
      have agV225 : agr [(3, 14), (5, 6), (5, 8), (5, 9), (5, 10)] [28, 29, 40] V V225 := agV214.tr ajV225 (by decide) (by decide)
      have t223 : (V225 5 6).toInt = (V214 5 6).toInt - 1 := t223
      have t224 : ((True) ∧ V225 = (up2 V214 5 6 (V214 5 6 - 1))) := t224
      have r227 : 0 ≤ ((V225 5 6)).toInt ∧ ((V225 5 6)).toInt ≤ 400 := hMV225 5 6
      have hw228 := t224.2
      obtain ⟨z229, ez229⟩ : ∃ y : Int32, y = V214 5 6 - 1 := ⟨_, rfl⟩
      have hz229 : z229.toInt = (V214 5 6).toInt - 1 := i_sub ez229 rfl (by decide) (by first | exact om_1c0ddc14e6cd gd sl8 pq219 | first | omega | ((try (have i_h30 := Imp.go h30 (by omega))); (try (have i_bc := Imp.go bc (by omega))); (try (have i_rwq := Imp.go rwq (by omega))); (try (have i_mo := Imp.go mo (by omega))); first | omega | ((try (have i_mo := Imp.go mo (by omega))); (try (have i_rwq := Imp.go rwq (by omega))); (try (have i_bc := Imp.go bc (by omega))); (try (have i_h30 := Imp.go h30 (by omega))); omega)))
      have hV225 : V225 = up2 V214 5 6 z229 := by rw [hw228, ez229]
      have me230 : ME V188 V225 gf := (ME.up (ME.up (ME.up ME.rf hV218 (Or.inr (by omega))) hV214 (Or.inr (by omega))) hV225 (Or.inr (by omega)))
      have pq231 : (V225 67 gf).toInt = ((V 67 gf)).toInt := congrArg Int32.toInt ((up2_o hV225 (by decide)).trans ((up2_o hV214 (by decide)).trans ((up2_o hV218 (by decide)).trans ((up2_o hV188 (by decide)).trans ((up2_o hV186 (by decide)).trans ((up2_o hV136 (by decide)).trans ((up2_o hV141 (by decide)).trans (up2_o hV139 (by decide)))))))))
      have pq232 : (V225 68 gf).toInt = ((V 68 gf)).toInt := congrArg Int32.toInt ((up2_o hV225 (by decide)).trans ((up2_o hV214 (by decide)).trans ((up2_o hV218 (by decide)).trans ((up2_o hV188 (by decide)).trans ((up2_o hV186 (by decide)).trans ((up2_o hV136 (by decide)).trans ((up2_o hV141 (by decide)).trans (up2_o hV139 (by decide)))))))))
      have pq233 : (V225 70 gf).toInt = ((V 70 gf)).toInt := congrArg Int32.toInt ((up2_o hV225 (by decide)).trans ((up2_o hV214 (by decide)).trans ((up2_o hV218 (by decide)).trans ((up2_o hV188 (by decide)).trans ((up2_o hV186 (by decide)).trans ((up2_o hV136 (by decide)).trans ((up2_o hV141 (by decide)).trans (up2_o hV139 (by decide)))))))))
      have pq234 : (V225 71 gf).toInt = ((V 71 gf)).toInt := congrArg Int32.toInt ((up2_o hV225 (by decide)).trans ((up2_o hV214 (by decide)).trans ((up2_o hV218 (by decide)).trans ((up2_o hV188 (by decide)).trans ((up2_o hV186 (by decide)).trans ((up2_o hV136 (by decide)).trans ((up2_o hV141 (by decide)).trans (up2_o hV139 (by decide)))))))))
      have pq235 : (V225 75 gf).toInt = ((V 75 gf)).toInt := congrArg Int32.toInt ((up2_o hV225 (by decide)).trans ((up2_o hV214 (by decide)).trans ((up2_o hV218 (by decide)).trans ((up2_o hV188 (by decide)).trans ((up2_o hV186 (by decide)).trans ((up2_o hV136 (by decide)).trans ((up2_o hV141 (by decide)).trans (up2_o hV139 (by decide)))))))))
      have pq236 : (V225 76 gf).toInt = ((V 76 gf)).toInt := congrArg Int32.toInt ((up2_o hV225 (by decide)).trans ((up2_o hV214 (by decide)).trans ((up2_o hV218 (by decide)).trans ((up2_o hV188 (by decide)).trans ((up2_o hV186 (by decide)).trans ((up2_o hV136 (by decide)).trans ((up2_o hV141 (by decide)).trans (up2_o hV139 (by decide)))))))))
      have pq237 : (V225 80 gf).toInt = ((V 80 gf)).toInt := congrArg Int32.toInt ((up2_o hV225 (by decide)).trans ((up2_o hV214 (by decide)).trans ((up2_o hV218 (by decide)).trans ((up2_o hV188 (by decide)).trans ((up2_o hV186 (by decide)).trans ((up2_o hV136 (by decide)).trans ((up2_o hV141 (by decide)).trans (up2_o hV139 (by decide)))))))))
      have pq238 : (V225 84 gf).toInt = ((V 84 gf)).toInt := congrArg Int32.toInt ((up2_o hV225 (by decide)).trans ((up2_o hV214 (by decide)).trans ((up2_o hV218 (by decide)).trans ((up2_o hV188 (by decide)).trans ((up2_o hV186 (by decide)).trans ((up2_o hV136 (by decide)).trans ((up2_o hV141 (by decide)).trans (up2_o hV139 (by decide)))))))))
      have pq239 : (V225 5 6).toInt = z229.toInt := congrArg Int32.toInt (up2_s hV225)
      have pq240 : (V225 5 8).toInt = z185.toInt := congrArg Int32.toInt ((up2_k hV225 (by decide)).trans ((up2_k hV214 (by decide)).trans ((up2_k hV218 (by decide)).trans ((up2_o hV188 (by decide)).trans (up2_s hV186)))))
      have pq241 : (V225 5 9).toInt = 1 := (congrArg Int32.toInt ((up2_k hV225 (by decide)).trans ((up2_k hV214 (by decide)).trans (up2_s hV218)))).trans (by decide)
      have pq242 : (V225 3 13).toInt = ((V 3 13)).toInt := congrArg Int32.toInt ((up2_o hV225 (by decide)).trans ((up2_o hV214 (by decide)).trans ((up2_o hV218 (by decide)).trans ((up2_o hV188 (by decide)).trans ((up2_o hV186 (by decide)).trans ((up2_o hV136 (by decide)).trans ((up2_k hV141 (by decide)).trans (up2_o hV139 (by decide)))))))))
      have pq243 : (V225 43 (5 * b + 2)).toInt = ((V 43 (5 * b + 2))).toInt := congrArg Int32.toInt ((up2_o hV225 (by decide)).trans ((up2_o hV214 (by decide)).trans ((up2_o hV218 (by decide)).trans ((up2_o hV188 (by decide)).trans ((up2_o hV186 (by decide)).trans ((up2_o hV136 (by decide)).trans ((up2_o hV141 (by decide)).trans (up2_o hV139 (by decide)))))))))
      have pq244 : (V225 42 b).toInt = ((V 42 b)).toInt := congrArg Int32.toInt ((up2_o hV225 (by decide)).trans ((up2_o hV214 (by decide)).trans ((up2_o hV218 (by decide)).trans ((up2_o hV188 (by decide)).trans ((up2_o hV186 (by decide)).trans ((up2_o hV136 (by decide)).trans ((up2_o hV141 (by decide)).trans (up2_o hV139 (by decide)))))))))
      have pq245 : (V225 41 b).toInt = ((V 41 b)).toInt := congrArg Int32.toInt ((up2_o hV225 (by decide)).trans ((up2_o hV214 (by decide)).trans ((up2_o hV218 (by decide)).trans ((up2_o hV188 (by decide)).trans ((up2_o hV186 (by decide)).trans ((up2_o hV136 (by decide)).trans ((up2_o hV141 (by decide)).trans (up2_o hV139 (by decide)))))))))
      have rp246 : MJ V225 Z b := MP.lv mp207 me230 (by (first | exact om_dca0de52e899 gd pq219 hz229 pq239 | omega)) (fun _ => trivial)
      have pq248 : (V225 5 7).toInt = ((V 5 7)).toInt := congrArg Int32.toInt ((up2_k hV225 (by decide)).trans ((up2_k hV214 (by decide)).trans ((up2_k hV218 (by decide)).trans ((up2_o hV188 (by decide)).trans ((up2_k hV186 (by decide)).trans ((up2_o hV136 (by decide)).trans ((up2_o hV141 (by decide)).trans (up2_o hV139 (by decide)))))))))
      have r249 : 0 ≤ ((V 5 7)).toInt ∧ ((V 5 7)).toInt ≤ 2048 := hMV 5 7
      have rl250 : RWl V225 gB gr t0 := RWl.mv hlr (fun i9 hi9 c9 h1 h2 => ((show V225 c9 i9 = V214 c9 i9 from by rw [hV225]; exact up2_pl (by omega)).trans ((show V214 c9 i9 = V218 c9 i9 from by rw [hV214]; exact up2_pl (by omega)).trans ((show V218 c9 i9 = V188 c9 i9 from by rw [hV218]; exact up2_pl (by omega)).trans ((show V188 c9 i9 = V186 c9 i9 from by rw [hV188]; exact up2_pl (by omega)).trans ((show V186 c9 i9 = V136 c9 i9 from by rw [hV186]; exact up2_pl (by omega)).trans ((show V136 c9 i9 = V141 c9 i9 from by rw [hV136]; exact up2_pl (by omega)).trans ((show V141 c9 i9 = V139 c9 i9 from by rw [hV141]; exact up2_pl (by omega)).trans (show V139 c9 i9 = V c9 i9 from by rw [hV139]; exact up2_pl (by omega)))))))))) (fun j9 hj9 => ((up2_o hV225 (by decide)).trans ((up2_o hV214 (by decide)).trans ((up2_o hV218 (by decide)).trans ((up2_o hV188 (by decide)).trans ((up2_o hV186 (by decide)).trans ((up2_o hV136 (by decide)).trans ((up2_o hV141 (by decide)).trans (up2_o hV139 (by decide)))))))))) (by rw [((up2_o hV225 (by decide)).trans ((up2_o hV214 (by decide)).trans ((up2_o hV218 (by decide)).trans ((up2_o hV188 (by decide)).trans ((up2_o hV186 (by decide)).trans ((up2_o hV136 (by decide)).trans ((up2_k hV141 (by decide)).trans (up2_o hV139 (by decide)))))))))]; exact Int.le_refl _) ((up2_o hV225 (by decide)).trans ((up2_o hV214 (by decide)).trans ((up2_o hV218 (by decide)).trans ((up2_o hV188 (by decide)).trans ((up2_o hV186 (by decide)).trans ((up2_o hV136 (by decide)).trans ((up2_k hV141 (by decide)).trans (up2_o hV139 (by decide)))))))))
      have rn7 : RWn V225 ow gB (mDone gm (V 70 gf).toInt.toNat) := RWn.done rn (show (((V 70 gf).toInt.toNat : Nat) : Int) < gm 0 2 from by omega) h30 (fun x9 hx9 => ((up2_o hV225 (by decide)).trans ((up2_o hV214 (by decide)).trans ((up2_o hV218 (by decide)).trans ((up2_o hV188 (by decide)).trans ((up2_o hV186 (by decide)).trans ((up2_o hV136 (by decide)).trans ((up2_o hV141 (by decide)).trans (up2_k hV139 (by omega)))))))))) (by show (V225 28 (Int32.toNatClampNeg (V 70 gf))).toInt = 1; rw [((up2_o hV225 (by decide)).trans ((up2_o hV214 (by decide)).trans ((up2_o hV218 (by decide)).trans ((up2_o hV188 (by decide)).trans ((up2_o hV186 (by decide)).trans ((up2_o hV136 (by decide)).trans ((up2_o hV141 (by decide)).trans (up2_s hV139))))))))]; decide) (fun x9 hx9 => ((up2_o hV225 (by decide)).trans ((up2_o hV214 (by decide)).trans ((up2_o hV218 (by decide)).trans ((up2_o hV188 (by decide)).trans ((up2_o hV186 (by decide)).trans ((up2_k hV136 (by omega)).trans ((up2_o hV141 (by decide)).trans (up2_o hV139 (by decide)))))))))) (by show (V225 29 (Int32.toNatClampNeg (V 70 gf))).toInt = (V 3 14).toInt; rw [((up2_o hV225 (by decide)).trans ((up2_o hV214 (by decide)).trans ((up2_o hV218 (by decide)).trans ((up2_o hV188 (by decide)).trans ((up2_o hV186 (by decide)).trans (up2_s hV136))))))]) (by have h9 := congrArg Int32.toInt (((up2_o hV225 (by decide)).trans ((up2_o hV214 (by decide)).trans ((up2_o hV218 (by decide)).trans ((up2_o hV188 (by decide)).trans ((up2_o hV186 (by decide)).trans ((up2_o hV136 (by decide)).trans (up2_s hV141)))))))); omega) (fun c9 k9 h1 h2 h3 h4 h5 => ((show V225 c9 k9 = V214 c9 k9 from by rw [hV225]; exact up2_pl (by omega)).trans ((show V214 c9 k9 = V218 c9 k9 from by rw [hV214]; exact up2_pl (by omega)).trans ((show V218 c9 k9 = V188 c9 k9 from by rw [hV218]; exact up2_pl (by omega)).trans ((show V188 c9 k9 = V186 c9 k9 from by rw [hV188]; exact up2_pl (by omega)).trans ((show V186 c9 k9 = V136 c9 k9 from by rw [hV186]; exact up2_pl (by omega)).trans ((show V136 c9 k9 = V141 c9 k9 from by rw [hV136]; exact up2_pl (by omega)).trans ((show V141 c9 k9 = V139 c9 k9 from by rw [hV141]; exact up2_pl (by omega)).trans (show V139 c9 k9 = V c9 k9 from by rw [hV139]; exact up2_pl (by omega))))))))))
      have rn6 : RWn V225 ow gB (mU (mDone gm (V 70 gf).toInt.toNat) 0 6 1) := RWn.mv rn7 (fun j9 hj9 => mU_06 (Or.inr (by omega))) (fun x9 j9 hx9 _ => mU_06 (Or.inl hx9)) (fun _ => rfl) rfl rfl rfl (fun _ _ _ _ _ => rfl)
      have m04 : (mU (mDone gm (V 70 gf).toInt.toNat) 0 6 1) 0 4 = gm 0 4 + 1 := by rw [mU_06 (Or.inr (by decide))]; unfold mDone; rw [mU_s]
      have m5 : ∀ j9, (mU (mDone gm (V 70 gf).toInt.toNat) 0 6 1) 5 j9 = if j9 = (gm 0 4).toNat then (((V 70 gf).toInt.toNat : Nat) : Int) else gm 5 j9 := fun j9 => by rw [mU_06 (Or.inl (by decide))]; unfold mDone; rw [mU_o _ _ (by omega)]; by_cases h9 : j9 = (gm 0 4).toNat; (rw [if_pos h9, h9, mU_s]); (rw [if_neg h9, mU_o _ _ (by omega), mU_o _ _ (by omega), mU_o _ _ (by omega), mU_o _ _ (by omega)])
      have ix8 : (Int32.toNatClampNeg (V 5 8)) = (gm 0 4).toNat := by have h9 := i_clamp (x := V 5 8) rfl (by (first | exact om_eafa9039069c r2.1 | omega)); omega
      have rz9 : RW V225 gB ((mU (mDone gm (V 70 gf).toInt.toNat) 0 6 1), (nI (V 70 gf).toInt.toNat), gr) := ⟨⟨ow, rn6⟩, ⟨(by show _ = (mU (mDone gm (V 70 gf).toInt.toNat) 0 6 1) 0 6; rw [mU_s]; omega), (fun _ => ((up2_k hV225 (by decide)).trans (up2_s hV214)).trans (nI_cl (x := V 70 gf) (by omega)).symm), (fun h9 => by have h8 : (mU (mDone gm (V 70 gf).toInt.toNat) 0 6 1) 0 6 = 2 := h9; rw [mU_s] at h8; exact absurd h8 (by decide)), (by show _ = (mU (mDone gm (V 70 gf).toInt.toNat) 0 6 1) 0 4; rw [m04]; omega), fun i9 hi9 => by have h8 : (i9 : Int) < (mU (mDone gm (V 70 gf).toInt.toNat) 0 6 1) 0 4 := hi9; rw [m04] at h8; show _ = (mU (mDone gm (V 70 gf).toInt.toNat) 0 6 1) 5 i9; rw [m5]; by_cases h7 : i9 = (gm 0 4).toNat; (rw [if_pos h7, h7, ← ix8, ((up2_o hV225 (by decide)).trans ((up2_o hV214 (by decide)).trans ((up2_o hV218 (by decide)).trans (up2_s hV188))))]; omega); (rw [if_neg h7, ((up2_o hV225 (by decide)).trans ((up2_o hV214 (by decide)).trans ((up2_o hV218 (by decide)).trans ((up2_k hV188 (by rw [ix8]; exact h7)).trans ((up2_o hV186 (by decide)).trans ((up2_o hV136 (by decide)).trans ((up2_o hV141 (by decide)).trans (up2_o hV139 (by decide)))))))))]; exact rh.2.2.2.2 i9 (by omega))⟩, (show (V225 5 6).toInt = ((gr.length : Nat) : Int) from by (first | exact om_f00ff43a6068 rd2 pq219 hz229 pq239 | omega)), t0, (show (V225 5 7).toInt = ((t0 : Nat) : Int) from by rw [((up2_k hV225 (by decide)).trans ((up2_k hV214 (by decide)).trans ((up2_k hV218 (by decide)).trans ((up2_o hV188 (by decide)).trans ((up2_k hV186 (by decide)).trans ((up2_o hV136 (by decide)).trans ((up2_o hV141 (by decide)).trans (up2_o hV139 (by decide))))))))), rt9, tz9]), rl250⟩
      exact W.vret hx hb hr (fun t ht hW => ⟨⟨(V225, L), rfl, ⟨hMV225, agV225, rfl, rp246, rz9⟩, by rw [ht]; exact hP, va_K.moved hW.alike hK, hD⟩, hS.F ht⟩) hS.2.2 dX5_finish_53
