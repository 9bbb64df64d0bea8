/-! the lowest bit -/
def LOB (n a : Nat) : Prop := n.testBit a = true ∧ ∀ i, i < a → n.testBit i = false
theorem LOB.mod {n a : Nat} (h : LOB n a) : n % 2 ^ (a + 1) = 2 ^ a := by
  apply Nat.eq_of_testBit_eq
  intro i
  rw [Nat.testBit_mod_two_pow, Nat.testBit_two_pow]
  by_cases c : i < a
  · rw [h.2 i c, Bool.and_false]
    exact (decide_eq_false (by omega)).symm
  · by_cases d : i = a
    · subst d
      rw [h.1, decide_eq_true (show i < i + 1 from by omega), decide_eq_true (show i = i from rfl)]
      rfl
    · rw [decide_eq_false (show ¬ i < a + 1 from by omega), decide_eq_false (show ¬ a = i from by omega)]
      rfl
theorem LOB.sub {n a : Nat} (h : LOB n a) : n - 1 = 2 ^ (a + 1) * (n / 2 ^ (a + 1)) + (2 ^ a - 1) := by
  have m := h.mod
  have d := Nat.div_add_mod n (2 ^ (a + 1))
  have p := Nat.two_pow_pos a
  rw [m] at d
  omega
theorem LOB.bit {n a : Nat} (h : LOB n a) (i : Nat) : (n - 1).testBit i = if i < a then true else if i = a then false else n.testBit i := by
  have p := Nat.two_pow_pos a
  have q : 2 ^ a - 1 < 2 ^ (a + 1) := by
    rw [Nat.pow_succ]
    omega
  rw [h.sub, Nat.testBit_two_pow_mul_add _ q i]
  by_cases c : i < a + 1
  · rw [if_pos c, Nat.testBit_two_pow_sub_one]
    by_cases d : i < a
    · rw [if_pos d, decide_eq_true d]
    · rw [if_neg d, if_pos (show i = a from by omega), decide_eq_false d]
  · rw [if_neg c, if_neg (by omega), if_neg (by omega), Nat.testBit_div_two_pow, show i - (a + 1) + (a + 1) = i from by omega]
theorem LOB.clr {n a : Nat} (h : LOB n a) (i : Nat) : (n &&& (n - 1)).testBit i = (n.testBit i && decide (i ≠ a)) := by
  rw [Nat.testBit_and, h.bit]
  by_cases c : i < a
  · rw [if_pos c, h.2 i c]
    rfl
  · by_cases d : i = a
    · rw [if_neg c, if_pos d, decide_eq_false (fun w => w d)]
    · rw [if_neg c, if_neg d, decide_eq_true d, Bool.and_self, Bool.and_true]
/-- a set of bits is a list -/
def SBL (x : Int32) (l : List Nat) : Prop := (0 ≤ x.toInt ∧ x.toInt < 16777216) ∧ (∀ g, g < 24 → (bt x g = true ↔ g ∈ l)) ∧ l.Pairwise (· < ·) ∧ ∀ g, g ∈ l → g < 24
theorem SBL.lob {x : Int32} {a : Nat} {l : List Nat} (h : SBL x (a :: l)) : LOB x.toInt.toNat a := by
  have a24 := h.2.2.2 a List.mem_cons_self
  refine ⟨?_, fun i hi => ?_⟩
  · rw [← bt_n h.1]
    exact (h.2.1 a a24).mpr List.mem_cons_self
  · rw [← bt_n h.1]
    cases e : bt x i
    · rfl
    · have z := (h.2.1 i (by omega)).mp e
      have p := List.pairwise_cons.mp h.2.2.1
      rcases List.mem_cons.mp z with y | y
      · omega
      · have := p.1 i y
        omega
theorem SBL.nil {x : Int32} {l : List Nat} (h : SBL x l) (e : x.toInt = 0) : l = [] := by
  cases l with
  | nil => rfl
  | cons a l =>
    have z := h.lob.1
    rw [e] at z
    rw [show Int.toNat 0 = 0 from rfl, Nat.zero_testBit] at z
    exact absurd z Bool.false_ne_true
theorem SBL.cons {x : Int32} {l : List Nat} (h : SBL x l) (e : x.toInt ≠ 0) : ∃ a t, l = a :: t := by
  cases l with
  | cons a t => exact ⟨a, t, rfl⟩
  | nil =>
    exfalso
    apply e
    have z : x.toInt.toNat = 0 := by
      apply Nat.eq_of_testBit_eq
      intro i
      rw [Nat.zero_testBit]
      rcases Nat.lt_or_ge i 24 with a | a
      · rw [← bt_n h.1]
        cases c : bt x i
        · rfl
        · exact absurd ((h.2.1 i a).mp c) List.not_mem_nil
      · exact Nat.testBit_lt_two_pow (Nat.lt_of_lt_of_le (show x.toInt.toNat < 2 ^ 24 from by have := h.1; omega) (Nat.pow_le_pow_right (by decide) a))
    have := h.1
    omega
theorem SBL.clr {x c z : Int32} {a : Nat} {l : List Nat} (h : SBL x (a :: l)) (e1 : c = x - 1) (e2 : z = x &&& c) : SBL z l := by
  have o := h.lob
  have x1 : 0 < x.toInt := by
    rcases (show x.toInt = 0 ∨ 0 < x.toInt from by have := h.1; omega) with q | q
    · exact absurd (h.nil q) (by simp)
    · exact q
  have x2 := h.1
  have ec : c.toInt = x.toInt - 1 := i_sub e1 rfl (by decide) (by omega)
  have ax := bn_of (x := x) (n := 16777216) h.1
  have ac := bn_of (x := c) (n := 16777216) ⟨by omega, by omega⟩
  have az : z.toBitVec.toNat = x.toBitVec.toNat &&& c.toBitVec.toNat := by
    rw [e2]
    show (x.toBitVec &&& c.toBitVec).toNat = _
    rw [BitVec.toNat_and]
  have a1 : x.toBitVec.toNat &&& c.toBitVec.toNat ≤ x.toBitVec.toNat := Nat.and_le_left
  have b := bn_to (x := z) (n := 16777216) (by omega) (by decide)
  have hz : 0 ≤ z.toInt ∧ z.toInt < 16777216 := ⟨b.1, b.2.1⟩
  have en : z.toInt.toNat = x.toInt.toNat &&& (x.toInt.toNat - 1) := by
    rw [show z.toInt.toNat = z.toBitVec.toNat from by omega, az, show x.toBitVec.toNat = x.toInt.toNat from by omega, show c.toBitVec.toNat = x.toInt.toNat - 1 from by omega]
  have p := List.pairwise_cons.mp h.2.2.1
  refine ⟨hz, fun g hg => ?_, p.2, fun g hg => h.2.2.2 g (List.mem_cons_of_mem _ hg)⟩
  rw [bt_n hz, en, o.clr, Bool.and_eq_true, decide_eq_true_iff, ← bt_n h.1, h.2.1 g hg, List.mem_cons]
  constructor
  · rintro ⟨q | q, w⟩
    · exact absurd q w
    · exact q
  · intro q
    exact ⟨Or.inr q, fun w => by have := p.1 g q; omega⟩
theorem b_not (x : Int32) {i : Nat} (hi : i < 32) : bt (x ^^^ (-1)) i = !bt x i := by
  unfold bt
  show (x.toBitVec ^^^ BitVec.allOnes 32).getLsbD i = _
  rw [BitVec.getLsbD_xor, BitVec.getLsbD_allOnes, decide_eq_true hi, Bool.xor_true]
/-- what numberOfTrailingZeros makes of it first -/
theorem LOB.y {x a c y : Int32} {k : Nat} (hx : 0 < x.toInt ∧ x.toInt < 16777216) (o : LOB x.toInt.toNat k) (e1 : a = x ^^^ (-1)) (e2 : c = x - 1) (e3 : y = a &&& c) : y.toInt = ((2 ^ k - 1 : Nat) : Int) := by
  have z := ntz_y e1 e2 e3 hx.1
  have ec : c.toInt = x.toInt - 1 := i_sub e2 rfl (by decide) (by (first | exact om_54d8851a11a3 hx.1 hx.2 | omega))
  have y24 : 0 ≤ y.toInt ∧ y.toInt < 16777216 := ⟨z.1, by omega⟩
  have en : y.toInt.toNat = 2 ^ k - 1 := by
    apply Nat.eq_of_testBit_eq
    intro i
    rw [Nat.testBit_two_pow_sub_one]
    rcases Nat.lt_or_ge i 32 with h | h
    · rw [← bt_n y24, e3, b_and, e1, b_not x h, bt_n ⟨by omega, hx.2⟩, bt_n (x := c) ⟨by omega, by omega⟩, show c.toInt.toNat = x.toInt.toNat - 1 from by omega, o.bit]
      by_cases d : i < k
      · rw [if_pos d, o.2 i d, decide_eq_true d]
        rfl
      · by_cases w : i = k
        · rw [if_neg d, if_pos w, Bool.and_false, decide_eq_false d]
        · rw [if_neg d, if_neg w, Bool.not_and_self, decide_eq_false d]
    · rw [Nat.testBit_lt_two_pow (Nat.lt_of_lt_of_le (show y.toInt.toNat < 2 ^ 24 from by omega) (Nat.pow_le_pow_right (by decide) (by omega)))]
      have k24 : k < 24 := by
        rcases Nat.lt_or_ge k 24 with q | q
        · exact q
        · have w := o.1
          rw [Nat.testBit_lt_two_pow (Nat.lt_of_lt_of_le (show x.toInt.toNat < 2 ^ 24 from by omega) (Nat.pow_le_pow_right (by decide) q))] at w
          exact absurd w Bool.false_ne_true
      exact (decide_eq_false (by omega)).symm
  omega
theorem pw_all : ∀ k : Fin 24, (2 ^ k.val - 1 = 0 ∧ k.val = 0) ∨ (2 ^ k.val - 1 = 1 ∧ k.val = 1) ∨ (2 ^ k.val - 1 = 3 ∧ k.val = 2) ∨ (2 ^ k.val - 1 = 7 ∧ k.val = 3) ∨ (2 ^ k.val - 1 = 15 ∧ k.val = 4) ∨ (2 ^ k.val - 1 = 31 ∧ k.val = 5) ∨ (2 ^ k.val - 1 = 63 ∧ k.val = 6) ∨ (2 ^ k.val - 1 = 127 ∧ k.val = 7) ∨ (2 ^ k.val - 1 = 255 ∧ k.val = 8) ∨ (2 ^ k.val - 1 = 511 ∧ k.val = 9) ∨ (2 ^ k.val - 1 = 1023 ∧ k.val = 10) ∨ (2 ^ k.val - 1 = 2047 ∧ k.val = 11) ∨ (2 ^ k.val - 1 = 4095 ∧ k.val = 12) ∨ (2 ^ k.val - 1 = 8191 ∧ k.val = 13) ∨ (2 ^ k.val - 1 = 16383 ∧ k.val = 14) ∨ (2 ^ k.val - 1 = 32767 ∧ k.val = 15) ∨ (2 ^ k.val - 1 = 65535 ∧ k.val = 16) ∨ (2 ^ k.val - 1 = 131071 ∧ k.val = 17) ∨ (2 ^ k.val - 1 = 262143 ∧ k.val = 18) ∨ (2 ^ k.val - 1 = 524287 ∧ k.val = 19) ∨ (2 ^ k.val - 1 = 1048575 ∧ k.val = 20) ∨ (2 ^ k.val - 1 = 2097151 ∧ k.val = 21) ∨ (2 ^ k.val - 1 = 4194303 ∧ k.val = 22) ∨ (2 ^ k.val - 1 = 8388607 ∧ k.val = 23) := by decide +kernel
/-- the n-th of a list, or -1 -/
def nth (l : List Nat) (i : Nat) : Int := match l[i]? with
  | some a => ((a : Nat) : Int)
  | none => -1
theorem nth_y {l : List Nat} {i a : Nat} (h : l[i]? = some a) : nth l i = ((a : Nat) : Int) := by
  unfold nth
  rw [h]
theorem nth_n {l : List Nat} {i : Nat} (h : l.length ≤ i) : nth l i = -1 := by
  unfold nth
  rw [List.getElem?_eq_none h]
theorem drop_hd {l t : List Nat} {k a : Nat} (h : l.drop k = a :: t) : l[k]? = some a ∧ l.drop (k + 1) = t := by
  constructor
  · have z := congrArg (fun x => x[0]?) h
    simpa [List.getElem?_drop] using z
  · rw [← List.tail_drop, h]
    rfl
theorem SBL.of {x : Int32} {f : Nat → Nat} {sv : Nat → Int} {kd t ca m : Nat} (h : FND x f sv kd t ca m) (hx : 0 ≤ x.toInt ∧ x.toInt ≤ 16777215) (hm : m ≤ 24) : SBL x (CLP f sv kd t ca m m) := by
  have lt : ∀ g, g ∈ CLP f sv kd t ca m m → g < m := fun g hg => by
    unfold CLP at hg
    exact List.mem_range.mp (List.mem_filter.mp hg).1
  refine ⟨⟨hx.1, by omega⟩, fun g hg => ?_, ?_, fun g hg => Nat.lt_of_lt_of_le (lt g hg) hm⟩
  · constructor
    · intro b
      have z := (h g hg).mp b
      exact (h.mem hm z.1).mp b
    · intro q
      exact (h.mem hm (lt g q)).mpr q
  · unfold CLP
    exact List.Pairwise.filter _ List.pairwise_lt_range
/-- what candidate() answers -/
def cnA (f : Nat → Nat) (sv : Nat → Int) (m : Nat) (c j i : Int) : Int := if 0 ≤ c ∧ c < (m : Int) ∧ 0 ≤ j ∧ j < ((f (66 + 8 * c.toNat) : Nat) : Int) ∧ 0 ≤ i then nth (clF f sv m c.toNat j.toNat) i.toNat else -1
theorem cnA_n {f : Nat → Nat} {sv : Nat → Int} {m : Nat} {c j i : Int} (h : ¬ (0 ≤ c ∧ c < (m : Int) ∧ 0 ≤ j ∧ j < ((f (66 + 8 * c.toNat) : Nat) : Int) ∧ 0 ≤ i)) : cnA f sv m c j i = -1 := if_neg h
theorem cnA_y {f : Nat → Nat} {sv : Nat → Int} {m a b k : Nat} {c j i : Int} (hc : c = (a : Int)) (hj : j = (b : Int)) (hi : i = (k : Int)) (h1 : a < m) (h2 : b < f (66 + 8 * a)) : cnA f sv m c j i = nth (clF f sv m a b) k := by
  subst hc hj hi
  unfold cnA
  rw [if_pos ⟨by omega, by omega, by omega, (show ((b : Nat) : Int) < ((f (66 + 8 * a) : Nat) : Int) from by omega), by omega⟩]
  rfl
theorem lob24 {n k : Nat} (o : LOB n k) (h : n < 16777216) : k < 24 := by
  rcases Nat.lt_or_ge k 24 with q | q
  · exact q
  · have w := o.1
    rw [Nat.testBit_lt_two_pow (Nat.lt_of_lt_of_le (show n < 2 ^ 24 from h) (Nat.pow_le_pow_right (by decide) q))] at w
    exact absurd w Bool.false_ne_true


abbrev r_x_nTZ10 : Room := { frames := 0, cells := 0, slots := 0, locals := 0 }
abbrev q_x_nTZ10 (D : va_G) (p0 : Int32) (gk : Nat) (A : Nat → Prop) : Array Value → State → Outcome → State → Prop := va_Qi (fun (r : Int32) (_ : Unit) => (0 ≤ r.toInt ∧ r.toInt ≤ 32) ∧ (r.toInt = ((gk : Nat) : Int))) (fun _ t => gq D A [] [] t) A
set_option maxHeartbeats 4000000 in
set_option maxRecDepth 100000 in
theorem x_nTZ10 (l : Launch) (D : va_G) (ks : KS) (sz : Nat) (p0 : Int32) (gk : Nat) (rg_p0 : 1 ≤ p0.toInt ∧ p0.toInt ≤ 16777215) (lob : LOB p0.toInt.toNat gk)  : Met l yJ6_numberOfTrailingZeros_0f7a4 (Cond.code yJ6_numberOfTrailingZeros_0f7a4 cJ6_numberOfTrailingZeros_0f7a4 2 (some .int) :: GW) r_x_nTZ10 (va_Pc [.int p0] (gp D ks ([]) ([]) sz)) (q_x_nTZ10 D p0 gk (va_A ([]) sz)) 0 0 (va_A ([]) sz) := by
  refine g_met (q_x_nTZ10 D p0 gk) (by decide) (Nat.le_of_ble_eq_true rfl) ?_
  intro p e s m below meth c A ls H locs hx hb hr hml hown hg hlocks hin hnw hgk hP hK hD hS hA hl
  have hown : s.vm.findClass RJ6 = some m.cls := hown
  have hl : lv_has ls 2 [(0, .int p0)] := hl
  refine lv_iload_n hx hb dJ6_numberOfTrailingZeros_0f7a4_0 rfl (lv_at hl 0 rfl) ?_
  refine lv_iconst (v := (-1)) hx hb dJ6_numberOfTrailingZeros_0f7a4_1 (by decide) ?_
  refine lv_ixor hx hb dJ6_numberOfTrailingZeros_0f7a4_2 ?_
  refine lv_topi (fun z1 ez1 => ?_)
  refine lv_iload_n hx hb dJ6_numberOfTrailingZeros_0f7a4_3 rfl (lv_at hl 0 rfl) ?_
  refine lv_iconst (v := 1) hx hb dJ6_numberOfTrailingZeros_0f7a4_4 (by decide) ?_
  refine lv_isub hx hb dJ6_numberOfTrailingZeros_0f7a4_5 ?_
  refine lv_topi (fun z2 ez2 => ?_)
  have hz2 : z2.toInt = p0.toInt - 1 := i_sub ez2 rfl (by decide) (by (first | exact om_118454f04e3b rg_p0.1 rg_p0.2 | omega))
  refine lv_iand hx hb dJ6_numberOfTrailingZeros_0f7a4_6 ?_
  refine lv_topi (fun z3 ez3 => ?_)
  have nyf := LOB.y (by omega) lob ez1 ez2 ez3
  have k24 : gk < 24 := lob24 lob (by (first | exact om_59466d5d1481 rg_p0.1 rg_p0.2 | omega))
  have pwa : _ := pw_all ⟨gk, k24⟩
  simp only [] at pwa
  refine lv_istore_n (lv' := [(0, .int z3)]) hx hb dJ6_numberOfTrailingZeros_0f7a4_7 rfl hl (by decide) rfl (fun ls hl => ?_)
  refine lv_iload_n hx hb dJ6_numberOfTrailingZeros_0f7a4_8 rfl (lv_at hl 0 rfl) ?_
  refine lv_if_gt (tgt := 17) hx hb dJ6_numberOfTrailingZeros_0f7a4_9 (by decide) (fun c4 => ?_) (fun c4 => ?_)
  · skip
    have f5 : 0 < z3.toInt := b_lt (by decide) rfl c4
    refine lv_iconst (v := 1) hx hb dJ6_numberOfTrailingZeros_0f7a4_17 (by decide) ?_
    refine lv_istore_n (lv' := [(1, .int 1), (0, .int z3)]) hx hb dJ6_numberOfTrailingZeros_0f7a4_18 rfl hl (by decide) rfl (fun ls hl => ?_)
    refine lv_iload_n hx hb dJ6_numberOfTrailingZeros_0f7a4_19 rfl (lv_at hl 1 rfl) ?_
    refine lv_ldcw (v := 65536) hx hb hown (hg _ w1145) dJ6_numberOfTrailingZeros_0f7a4_20 ?_
    refine lv_icmp_le (tgt := 34) hx hb dJ6_numberOfTrailingZeros_0f7a4_23 (by decide) (fun c6 => ?_) (fun c6 => ?_)
    · skip
      have f7 : z3.toInt ≤ 65536 := b_le rfl (by decide) c6
      refine lv_iload_n hx hb dJ6_numberOfTrailingZeros_0f7a4_34 rfl (lv_at hl 1 rfl) ?_
      refine lv_sipush (v := 256) hx hb dJ6_numberOfTrailingZeros_0f7a4_35 (by decide) ?_
      refine lv_icmp_le (tgt := 49) hx hb dJ6_numberOfTrailingZeros_0f7a4_38 (by decide) (fun c8 => ?_) (fun c8 => ?_)
      · skip
        have f9 : z3.toInt ≤ 256 := b_le rfl (by decide) c8
        refine lv_iload_n hx hb dJ6_numberOfTrailingZeros_0f7a4_49 rfl (lv_at hl 1 rfl) ?_
        refine lv_bipush (v := 16) hx hb dJ6_numberOfTrailingZeros_0f7a4_50 (by decide) ?_
        refine lv_icmp_le (tgt := 62) hx hb dJ6_numberOfTrailingZeros_0f7a4_52 (by decide) (fun c10 => ?_) (fun c10 => ?_)
        · skip
          have f11 : z3.toInt ≤ 16 := b_le rfl (by decide) c10
          refine lv_iload_n hx hb dJ6_numberOfTrailingZeros_0f7a4_62 rfl (lv_at hl 1 rfl) ?_
          refine lv_iconst (v := 4) hx hb dJ6_numberOfTrailingZeros_0f7a4_63 (by decide) ?_
          refine lv_icmp_le (tgt := 74) hx hb dJ6_numberOfTrailingZeros_0f7a4_64 (by decide) (fun c12 => ?_) (fun c12 => ?_)
          · skip
            have f13 : z3.toInt ≤ 4 := b_le rfl (by decide) c12
            refine lv_iload_n hx hb dJ6_numberOfTrailingZeros_0f7a4_74 rfl (lv_at hl 0 rfl) ?_
            refine lv_iload_n hx hb dJ6_numberOfTrailingZeros_0f7a4_75 rfl (lv_at hl 1 rfl) ?_
            refine lv_iconst (v := 1) hx hb dJ6_numberOfTrailingZeros_0f7a4_76 (by decide) ?_
            refine lv_iushr hx hb dJ6_numberOfTrailingZeros_0f7a4_77 rfl ?_
            refine lv_topi (fun z14 ez14 => ?_)
            have hz14 : z14.toInt = z3.toInt / 2 := ushr_l (P := 2) (k := 1) ez14 (by first | omega | ((try (have i_lob := Imp.go lob (by omega))); omega)) (by decide) (by decide) (by decide)
            refine lv_iadd hx hb dJ6_numberOfTrailingZeros_0f7a4_78 ?_
            refine lv_topi (fun z15 ez15 => ?_)
            have hz15 : z15.toInt = 1 + z14.toInt := i_add ez15 (by decide) rfl (by omega)
            exact W.iret (v := z15) hx hb hr (fun t ht hW => ⟨⟨z15, (), rfl, ⟨(show 0 ≤ z15.toInt ∧ z15.toInt ≤ 32 from by first | omega | ((try (have i_lob := Imp.go lob (by omega))); omega)), (show z15.toInt = ((gk : Nat) : Int) from by first | omega | ((try (have i_lob := Imp.go lob (by omega))); omega))⟩, by rw [ht]; exact hP, va_K.moved hW.alike hK, hD⟩, hS.F ht⟩) hS.2.2 dJ6_numberOfTrailingZeros_0f7a4_79
          · skip
            have f16 : 4 < z3.toInt := b_nle rfl (by decide) c12
            refine lv_iinc (v := 3) (lv' := [(1, .int 3), (0, .int z3)]) hx hb dJ6_numberOfTrailingZeros_0f7a4_67 hl (k := 0) rfl (by decide) (by decide) rfl (fun ls hl => ?_)
            refine lv_iload_n hx hb dJ6_numberOfTrailingZeros_0f7a4_70 rfl (lv_at hl 1 rfl) ?_
            refine lv_iconst (v := 2) hx hb dJ6_numberOfTrailingZeros_0f7a4_71 (by decide) ?_
            refine lv_iushr hx hb dJ6_numberOfTrailingZeros_0f7a4_72 rfl ?_
            refine lv_topi (fun z17 ez17 => ?_)
            have hz17 : z17.toInt = z3.toInt / 4 := ushr_l (P := 4) (k := 2) ez17 (by first | omega | ((try (have i_lob := Imp.go lob (by omega))); omega)) (by decide) (by decide) (by decide)
            refine lv_istore_n (lv' := [(0, .int z17), (1, .int 3)]) hx hb dJ6_numberOfTrailingZeros_0f7a4_73 rfl hl (by decide) rfl (fun ls hl => ?_)
            refine lv_iload_n hx hb dJ6_numberOfTrailingZeros_0f7a4_74 rfl (lv_at hl 1 rfl) ?_
            refine lv_iload_n hx hb dJ6_numberOfTrailingZeros_0f7a4_75 rfl (lv_at hl 0 rfl) ?_
            refine lv_iconst (v := 1) hx hb dJ6_numberOfTrailingZeros_0f7a4_76 (by decide) ?_
            refine lv_iushr hx hb dJ6_numberOfTrailingZeros_0f7a4_77 rfl ?_
            refine lv_topi (fun z18 ez18 => ?_)
            have hz18 : z18.toInt = z17.toInt / 2 := ushr_l (P := 2) (k := 1) ez18 (by first | omega | ((try (have i_lob := Imp.go lob (by omega))); omega)) (by decide) (by decide) (by decide)
            refine lv_iadd hx hb dJ6_numberOfTrailingZeros_0f7a4_78 ?_
            refine lv_topi (fun z19 ez19 => ?_)
            have hz19 : z19.toInt = 3 + z18.toInt := i_add ez19 (by decide) rfl (by omega)
            exact W.iret (v := z19) hx hb hr (fun t ht hW => ⟨⟨z19, (), rfl, ⟨(show 0 ≤ z19.toInt ∧ z19.toInt ≤ 32 from by first | omega | ((try (have i_lob := Imp.go lob (by omega))); omega)), (show z19.toInt = ((gk : Nat) : Int) from by first | omega | ((try (have i_lob := Imp.go lob (by omega))); omega))⟩, by rw [ht]; exact hP, va_K.moved hW.alike hK, hD⟩, hS.F ht⟩) hS.2.2 dJ6_numberOfTrailingZeros_0f7a4_79
        · skip
          have f20 : 16 < z3.toInt := b_nle rfl (by decide) c10
          refine lv_iinc (v := 5) (lv' := [(1, .int 5), (0, .int z3)]) hx hb dJ6_numberOfTrailingZeros_0f7a4_55 hl (k := 0) rfl (by decide) (by decide) rfl (fun ls hl => ?_)
          refine lv_iload_n hx hb dJ6_numberOfTrailingZeros_0f7a4_58 rfl (lv_at hl 1 rfl) ?_
          refine lv_iconst (v := 4) hx hb dJ6_numberOfTrailingZeros_0f7a4_59 (by decide) ?_
          refine lv_iushr hx hb dJ6_numberOfTrailingZeros_0f7a4_60 rfl ?_
          refine lv_topi (fun z21 ez21 => ?_)
          have hz21 : z21.toInt = z3.toInt / 16 := ushr_l (P := 16) (k := 4) ez21 (by first | omega | ((try (have i_lob := Imp.go lob (by omega))); omega)) (by decide) (by decide) (by decide)
          refine lv_istore_n (lv' := [(0, .int z21), (1, .int 5)]) hx hb dJ6_numberOfTrailingZeros_0f7a4_61 rfl hl (by decide) rfl (fun ls hl => ?_)
          refine lv_iload_n hx hb dJ6_numberOfTrailingZeros_0f7a4_62 rfl (lv_at hl 0 rfl) ?_
          refine lv_iconst (v := 4) hx hb dJ6_numberOfTrailingZeros_0f7a4_63 (by decide) ?_
          refine lv_icmp_le (tgt := 74) hx hb dJ6_numberOfTrailingZeros_0f7a4_64 (by decide) (fun c22 => ?_) (fun c22 => ?_)
          · skip
            have f23 : z21.toInt ≤ 4 := b_le rfl (by decide) c22
            refine lv_iload_n hx hb dJ6_numberOfTrailingZeros_0f7a4_74 rfl (lv_at hl 1 rfl) ?_
            refine lv_iload_n hx hb dJ6_numberOfTrailingZeros_0f7a4_75 rfl (lv_at hl 0 rfl) ?_
            refine lv_iconst (v := 1) hx hb dJ6_numberOfTrailingZeros_0f7a4_76 (by decide) ?_
            refine lv_iushr hx hb dJ6_numberOfTrailingZeros_0f7a4_77 rfl ?_
            refine lv_topi (fun z24 ez24 => ?_)
            have hz24 : z24.toInt = z21.toInt / 2 := ushr_l (P := 2) (k := 1) ez24 (by first | omega | ((try (have i_lob := Imp.go lob (by omega))); omega)) (by decide) (by decide) (by decide)
            refine lv_iadd hx hb dJ6_numberOfTrailingZeros_0f7a4_78 ?_
            refine lv_topi (fun z25 ez25 => ?_)
            have hz25 : z25.toInt = 5 + z24.toInt := i_add ez25 (by decide) rfl (by omega)
            exact W.iret (v := z25) hx hb hr (fun t ht hW => ⟨⟨z25, (), rfl, ⟨(show 0 ≤ z25.toInt ∧ z25.toInt ≤ 32 from by first | omega | ((try (have i_lob := Imp.go lob (by omega))); omega)), (show z25.toInt = ((gk : Nat) : Int) from by first | omega | ((try (have i_lob := Imp.go lob (by omega))); omega))⟩, by rw [ht]; exact hP, va_K.moved hW.alike hK, hD⟩, hS.F ht⟩) hS.2.2 dJ6_numberOfTrailingZeros_0f7a4_79
          · skip
            have f26 : 4 < z21.toInt := b_nle rfl (by decide) c22
            refine lv_iinc (v := 7) (lv' := [(1, .int 7), (0, .int z21)]) hx hb dJ6_numberOfTrailingZeros_0f7a4_67 hl (k := 1) rfl (by decide) (by decide) rfl (fun ls hl => ?_)
            refine lv_iload_n hx hb dJ6_numberOfTrailingZeros_0f7a4_70 rfl (lv_at hl 1 rfl) ?_
            refine lv_iconst (v := 2) hx hb dJ6_numberOfTrailingZeros_0f7a4_71 (by decide) ?_
            refine lv_iushr hx hb dJ6_numberOfTrailingZeros_0f7a4_72 rfl ?_
            refine lv_topi (fun z27 ez27 => ?_)
            have hz27 : z27.toInt = z21.toInt / 4 := ushr_l (P := 4) (k := 2) ez27 (by first | omega | ((try (have i_lob := Imp.go lob (by omega))); omega)) (by decide) (by decide) (by decide)
            refine lv_istore_n (lv' := [(0, .int z27), (1, .int 7)]) hx hb dJ6_numberOfTrailingZeros_0f7a4_73 rfl hl (by decide) rfl (fun ls hl => ?_)
            refine lv_iload_n hx hb dJ6_numberOfTrailingZeros_0f7a4_74 rfl (lv_at hl 1 rfl) ?_
            refine lv_iload_n hx hb dJ6_numberOfTrailingZeros_0f7a4_75 rfl (lv_at hl 0 rfl) ?_
            refine lv_iconst (v := 1) hx hb dJ6_numberOfTrailingZeros_0f7a4_76 (by decide) ?_
            refine lv_iushr hx hb dJ6_numberOfTrailingZeros_0f7a4_77 rfl ?_
            refine lv_topi (fun z28 ez28 => ?_)
            have hz28 : z28.toInt = z27.toInt / 2 := ushr_l (P := 2) (k := 1) ez28 (by first | omega | ((try (have i_lob := Imp.go lob (by omega))); omega)) (by decide) (by decide) (by decide)
            refine lv_iadd hx hb dJ6_numberOfTrailingZeros_0f7a4_78 ?_
            refine lv_topi (fun z29 ez29 => ?_)
            have hz29 : z29.toInt = 7 + z28.toInt := i_add ez29 (by decide) rfl (by omega)
            exact W.iret (v := z29) hx hb hr (fun t ht hW => ⟨⟨z29, (), rfl, ⟨(show 0 ≤ z29.toInt ∧ z29.toInt ≤ 32 from by first | omega | ((try (have i_lob := Imp.go lob (by omega))); omega)), (show z29.toInt = ((gk : Nat) : Int) from by first | omega | ((try (have i_lob := Imp.go lob (by omega))); omega))⟩, by rw [ht]; exact hP, va_K.moved hW.alike hK, hD⟩, hS.F ht⟩) hS.2.2 dJ6_numberOfTrailingZeros_0f7a4_79
      · skip
        have f30 : 256 < z3.toInt := b_nle rfl (by decide) c8
        refine lv_iinc (v := 9) (lv' := [(1, .int 9), (0, .int z3)]) hx hb dJ6_numberOfTrailingZeros_0f7a4_41 hl (k := 0) rfl (by decide) (by decide) rfl (fun ls hl => ?_)
        refine lv_iload_n hx hb dJ6_numberOfTrailingZeros_0f7a4_44 rfl (lv_at hl 1 rfl) ?_
        refine lv_bipush (v := 8) hx hb dJ6_numberOfTrailingZeros_0f7a4_45 (by decide) ?_
        refine lv_iushr hx hb dJ6_numberOfTrailingZeros_0f7a4_47 rfl ?_
        refine lv_topi (fun z31 ez31 => ?_)
        have hz31 : z31.toInt = z3.toInt / 256 := ushr_l (P := 256) (k := 8) ez31 (by first | omega | ((try (have i_lob := Imp.go lob (by omega))); omega)) (by decide) (by decide) (by decide)
        refine lv_istore_n (lv' := [(0, .int z31), (1, .int 9)]) hx hb dJ6_numberOfTrailingZeros_0f7a4_48 rfl hl (by decide) rfl (fun ls hl => ?_)
        refine lv_iload_n hx hb dJ6_numberOfTrailingZeros_0f7a4_49 rfl (lv_at hl 0 rfl) ?_
        refine lv_bipush (v := 16) hx hb dJ6_numberOfTrailingZeros_0f7a4_50 (by decide) ?_
        refine lv_icmp_le (tgt := 62) hx hb dJ6_numberOfTrailingZeros_0f7a4_52 (by decide) (fun c32 => ?_) (fun c32 => ?_)
        · skip
          have f33 : z31.toInt ≤ 16 := b_le rfl (by decide) c32
          refine lv_iload_n hx hb dJ6_numberOfTrailingZeros_0f7a4_62 rfl (lv_at hl 0 rfl) ?_
          refine lv_iconst (v := 4) hx hb dJ6_numberOfTrailingZeros_0f7a4_63 (by decide) ?_
          refine lv_icmp_le (tgt := 74) hx hb dJ6_numberOfTrailingZeros_0f7a4_64 (by decide) (fun c34 => ?_) (fun c34 => ?_)
          · skip
            have f35 : z31.toInt ≤ 4 := b_le rfl (by decide) c34
            refine lv_iload_n hx hb dJ6_numberOfTrailingZeros_0f7a4_74 rfl (lv_at hl 1 rfl) ?_
            refine lv_iload_n hx hb dJ6_numberOfTrailingZeros_0f7a4_75 rfl (lv_at hl 0 rfl) ?_
            refine lv_iconst (v := 1) hx hb dJ6_numberOfTrailingZeros_0f7a4_76 (by decide) ?_
            refine lv_iushr hx hb dJ6_numberOfTrailingZeros_0f7a4_77 rfl ?_
            refine lv_topi (fun z36 ez36 => ?_)
            have hz36 : z36.toInt = z31.toInt / 2 := ushr_l (P := 2) (k := 1) ez36 (by first | omega | ((try (have i_lob := Imp.go lob (by omega))); omega)) (by decide) (by decide) (by decide)
            refine lv_iadd hx hb dJ6_numberOfTrailingZeros_0f7a4_78 ?_
            refine lv_topi (fun z37 ez37 => ?_)
            have hz37 : z37.toInt = 9 + z36.toInt := i_add ez37 (by decide) rfl (by omega)
            exact W.iret (v := z37) hx hb hr (fun t ht hW => ⟨⟨z37, (), rfl, ⟨(show 0 ≤ z37.toInt ∧ z37.toInt ≤ 32 from by first | omega | ((try (have i_lob := Imp.go lob (by omega))); omega)), (show z37.toInt = ((gk : Nat) : Int) from by first | omega | ((try (have i_lob := Imp.go lob (by omega))); omega))⟩, by rw [ht]; exact hP, va_K.moved hW.alike hK, hD⟩, hS.F ht⟩) hS.2.2 dJ6_numberOfTrailingZeros_0f7a4_79
          · skip
            have f38 : 4 < z31.toInt := b_nle rfl (by decide) c34
            refine lv_iinc (v := 11) (lv' := [(1, .int 11), (0, .int z31)]) hx hb dJ6_numberOfTrailingZeros_0f7a4_67 hl (k := 1) rfl (by decide) (by decide) rfl (fun ls hl => ?_)
            refine lv_iload_n hx hb dJ6_numberOfTrailingZeros_0f7a4_70 rfl (lv_at hl 1 rfl) ?_
            refine lv_iconst (v := 2) hx hb dJ6_numberOfTrailingZeros_0f7a4_71 (by decide) ?_
            refine lv_iushr hx hb dJ6_numberOfTrailingZeros_0f7a4_72 rfl ?_
            refine lv_topi (fun z39 ez39 => ?_)
            have hz39 : z39.toInt = z31.toInt / 4 := ushr_l (P := 4) (k := 2) ez39 (by first | omega | ((try (have i_lob := Imp.go lob (by omega))); omega)) (by decide) (by decide) (by decide)
            refine lv_istore_n (lv' := [(0, .int z39), (1, .int 11)]) hx hb dJ6_numberOfTrailingZeros_0f7a4_73 rfl hl (by decide) rfl (fun ls hl => ?_)
            refine lv_iload_n hx hb dJ6_numberOfTrailingZeros_0f7a4_74 rfl (lv_at hl 1 rfl) ?_
            refine lv_iload_n hx hb dJ6_numberOfTrailingZeros_0f7a4_75 rfl (lv_at hl 0 rfl) ?_
            refine lv_iconst (v := 1) hx hb dJ6_numberOfTrailingZeros_0f7a4_76 (by decide) ?_
            refine lv_iushr hx hb dJ6_numberOfTrailingZeros_0f7a4_77 rfl ?_
            refine lv_topi (fun z40 ez40 => ?_)
            have hz40 : z40.toInt = z39.toInt / 2 := ushr_l (P := 2) (k := 1) ez40 (by first | omega | ((try (have i_lob := Imp.go lob (by omega))); omega)) (by decide) (by decide) (by decide)
            refine lv_iadd hx hb dJ6_numberOfTrailingZeros_0f7a4_78 ?_
            refine lv_topi (fun z41 ez41 => ?_)
            have hz41 : z41.toInt = 11 + z40.toInt := i_add ez41 (by decide) rfl (by omega)
            exact W.iret (v := z41) hx hb hr (fun t ht hW => ⟨⟨z41, (), rfl, ⟨(show 0 ≤ z41.toInt ∧ z41.toInt ≤ 32 from by first | omega | ((try (have i_lob := Imp.go lob (by omega))); omega)), (show z41.toInt = ((gk : Nat) : Int) from by first | omega | ((try (have i_lob := Imp.go lob (by omega))); omega))⟩, by rw [ht]; exact hP, va_K.moved hW.alike hK, hD⟩, hS.F ht⟩) hS.2.2 dJ6_numberOfTrailingZeros_0f7a4_79
        · skip
          have f42 : 16 < z31.toInt := b_nle rfl (by decide) c32
          refine lv_iinc (v := 13) (lv' := [(1, .int 13), (0, .int z31)]) hx hb dJ6_numberOfTrailingZeros_0f7a4_55 hl (k := 1) rfl (by decide) (by decide) rfl (fun ls hl => ?_)
          refine lv_iload_n hx hb dJ6_numberOfTrailingZeros_0f7a4_58 rfl (lv_at hl 1 rfl) ?_
          refine lv_iconst (v := 4) hx hb dJ6_numberOfTrailingZeros_0f7a4_59 (by decide) ?_
          refine lv_iushr hx hb dJ6_numberOfTrailingZeros_0f7a4_60 rfl ?_
          refine lv_topi (fun z43 ez43 => ?_)
          have hz43 : z43.toInt = z31.toInt / 16 := ushr_l (P := 16) (k := 4) ez43 (by first | omega | ((try (have i_lob := Imp.go lob (by omega))); omega)) (by decide) (by decide) (by decide)
          refine lv_istore_n (lv' := [(0, .int z43), (1, .int 13)]) hx hb dJ6_numberOfTrailingZeros_0f7a4_61 rfl hl (by decide) rfl (fun ls hl => ?_)
          refine lv_iload_n hx hb dJ6_numberOfTrailingZeros_0f7a4_62 rfl (lv_at hl 0 rfl) ?_
          refine lv_iconst (v := 4) hx hb dJ6_numberOfTrailingZeros_0f7a4_63 (by decide) ?_
          refine lv_icmp_le (tgt := 74) hx hb dJ6_numberOfTrailingZeros_0f7a4_64 (by decide) (fun c44 => ?_) (fun c44 => ?_)
          · skip
            have f45 : z43.toInt ≤ 4 := b_le rfl (by decide) c44
            refine lv_iload_n hx hb dJ6_numberOfTrailingZeros_0f7a4_74 rfl (lv_at hl 1 rfl) ?_
            refine lv_iload_n hx hb dJ6_numberOfTrailingZeros_0f7a4_75 rfl (lv_at hl 0 rfl) ?_
            refine lv_iconst (v := 1) hx hb dJ6_numberOfTrailingZeros_0f7a4_76 (by decide) ?_
            refine lv_iushr hx hb dJ6_numberOfTrailingZeros_0f7a4_77 rfl ?_
            refine lv_topi (fun z46 ez46 => ?_)
            have hz46 : z46.toInt = z43.toInt / 2 := ushr_l (P := 2) (k := 1) ez46 (by first | omega | ((try (have i_lob := Imp.go lob (by omega))); omega)) (by decide) (by decide) (by decide)
            refine lv_iadd hx hb dJ6_numberOfTrailingZeros_0f7a4_78 ?_
            refine lv_topi (fun z47 ez47 => ?_)
            have hz47 : z47.toInt = 13 + z46.toInt := i_add ez47 (by decide) rfl (by omega)
            exact W.iret (v := z47) hx hb hr (fun t ht hW => ⟨⟨z47, (), rfl, ⟨(show 0 ≤ z47.toInt ∧ z47.toInt ≤ 32 from by first | omega | ((try (have i_lob := Imp.go lob (by omega))); omega)), (show z47.toInt = ((gk : Nat) : Int) from by first | omega | ((try (have i_lob := Imp.go lob (by omega))); omega))⟩, by rw [ht]; exact hP, va_K.moved hW.alike hK, hD⟩, hS.F ht⟩) hS.2.2 dJ6_numberOfTrailingZeros_0f7a4_79
          · skip
            have f48 : 4 < z43.toInt := b_nle rfl (by decide) c44
            refine lv_iinc (v := 15) (lv' := [(1, .int 15), (0, .int z43)]) hx hb dJ6_numberOfTrailingZeros_0f7a4_67 hl (k := 1) rfl (by decide) (by decide) rfl (fun ls hl => ?_)
            refine lv_iload_n hx hb dJ6_numberOfTrailingZeros_0f7a4_70 rfl (lv_at hl 1 rfl) ?_
            refine lv_iconst (v := 2) hx hb dJ6_numberOfTrailingZeros_0f7a4_71 (by decide) ?_
            refine lv_iushr hx hb dJ6_numberOfTrailingZeros_0f7a4_72 rfl ?_
            refine lv_topi (fun z49 ez49 => ?_)
            have hz49 : z49.toInt = z43.toInt / 4 := ushr_l (P := 4) (k := 2) ez49 (by first | omega | ((try (have i_lob := Imp.go lob (by omega))); omega)) (by decide) (by decide) (by decide)
            refine lv_istore_n (lv' := [(0, .int z49), (1, .int 15)]) hx hb dJ6_numberOfTrailingZeros_0f7a4_73 rfl hl (by decide) rfl (fun ls hl => ?_)
            refine lv_iload_n hx hb dJ6_numberOfTrailingZeros_0f7a4_74 rfl (lv_at hl 1 rfl) ?_
            refine lv_iload_n hx hb dJ6_numberOfTrailingZeros_0f7a4_75 rfl (lv_at hl 0 rfl) ?_
            refine lv_iconst (v := 1) hx hb dJ6_numberOfTrailingZeros_0f7a4_76 (by decide) ?_
            refine lv_iushr hx hb dJ6_numberOfTrailingZeros_0f7a4_77 rfl ?_
            refine lv_topi (fun z50 ez50 => ?_)
            have hz50 : z50.toInt = z49.toInt / 2 := ushr_l (P := 2) (k := 1) ez50 (by first | omega | ((try (have i_lob := Imp.go lob (by omega))); omega)) (by decide) (by decide) (by decide)
            refine lv_iadd hx hb dJ6_numberOfTrailingZeros_0f7a4_78 ?_
            refine lv_topi (fun z51 ez51 => ?_)
            have hz51 : z51.toInt = 15 + z50.toInt := i_add ez51 (by decide) rfl (by omega)
            exact W.iret (v := z51) hx hb hr (fun t ht hW => ⟨⟨z51, (), rfl, ⟨(show 0 ≤ z51.toInt ∧ z51.toInt ≤ 32 from by first | omega | ((try (have i_lob := Imp.go lob (by omega))); omega)), (show z51.toInt = ((gk : Nat) : Int) from by first | omega | ((try (have i_lob := Imp.go lob (by omega))); omega))⟩, by rw [ht]; exact hP, va_K.moved hW.alike hK, hD⟩, hS.F ht⟩) hS.2.2 dJ6_numberOfTrailingZeros_0f7a4_79
    · skip
      have f52 : 65536 < z3.toInt := b_nle rfl (by decide) c6
      refine lv_iinc (v := 17) (lv' := [(1, .int 17), (0, .int z3)]) hx hb dJ6_numberOfTrailingZeros_0f7a4_26 hl (k := 0) rfl (by decide) (by decide) rfl (fun ls hl => ?_)
      refine lv_iload_n hx hb dJ6_numberOfTrailingZeros_0f7a4_29 rfl (lv_at hl 1 rfl) ?_
      refine lv_bipush (v := 16) hx hb dJ6_numberOfTrailingZeros_0f7a4_30 (by decide) ?_
      refine lv_iushr hx hb dJ6_numberOfTrailingZeros_0f7a4_32 rfl ?_
      refine lv_topi (fun z53 ez53 => ?_)
      have hz53 : z53.toInt = z3.toInt / 65536 := ushr_l (P := 65536) (k := 16) ez53 (by first | omega | ((try (have i_lob := Imp.go lob (by omega))); omega)) (by decide) (by decide) (by decide)
      refine lv_istore_n (lv' := [(0, .int z53), (1, .int 17)]) hx hb dJ6_numberOfTrailingZeros_0f7a4_33 rfl hl (by decide) rfl (fun ls hl => ?_)
      refine lv_iload_n hx hb dJ6_numberOfTrailingZeros_0f7a4_34 rfl (lv_at hl 0 rfl) ?_
      refine lv_sipush (v := 256) hx hb dJ6_numberOfTrailingZeros_0f7a4_35 (by decide) ?_
      refine lv_icmp_le (tgt := 49) hx hb dJ6_numberOfTrailingZeros_0f7a4_38 (by decide) (fun c54 => ?_) (fun c54 => ?_)
      · skip
        have f55 : z53.toInt ≤ 256 := b_le rfl (by decide) c54
        refine lv_iload_n hx hb dJ6_numberOfTrailingZeros_0f7a4_49 rfl (lv_at hl 0 rfl) ?_
        refine lv_bipush (v := 16) hx hb dJ6_numberOfTrailingZeros_0f7a4_50 (by decide) ?_
        refine lv_icmp_le (tgt := 62) hx hb dJ6_numberOfTrailingZeros_0f7a4_52 (by decide) (fun c56 => ?_) (fun c56 => ?_)
        · skip
          have f57 : z53.toInt ≤ 16 := b_le rfl (by decide) c56
          refine lv_iload_n hx hb dJ6_numberOfTrailingZeros_0f7a4_62 rfl (lv_at hl 0 rfl) ?_
          refine lv_iconst (v := 4) hx hb dJ6_numberOfTrailingZeros_0f7a4_63 (by decide) ?_
          refine lv_icmp_le (tgt := 74) hx hb dJ6_numberOfTrailingZeros_0f7a4_64 (by decide) (fun c58 => ?_) (fun c58 => ?_)
          · skip
            have f59 : z53.toInt ≤ 4 := b_le rfl (by decide) c58
            refine lv_iload_n hx hb dJ6_numberOfTrailingZeros_0f7a4_74 rfl (lv_at hl 1 rfl) ?_
            refine lv_iload_n hx hb dJ6_numberOfTrailingZeros_0f7a4_75 rfl (lv_at hl 0 rfl) ?_
            refine lv_iconst (v := 1) hx hb dJ6_numberOfTrailingZeros_0f7a4_76 (by decide) ?_
            refine lv_iushr hx hb dJ6_numberOfTrailingZeros_0f7a4_77 rfl ?_
            refine lv_topi (fun z60 ez60 => ?_)
            have hz60 : z60.toInt = z53.toInt / 2 := ushr_l (P := 2) (k := 1) ez60 (by first | omega | ((try (have i_lob := Imp.go lob (by omega))); omega)) (by decide) (by decide) (by decide)
            refine lv_iadd hx hb dJ6_numberOfTrailingZeros_0f7a4_78 ?_
            refine lv_topi (fun z61 ez61 => ?_)
            have hz61 : z61.toInt = 17 + z60.toInt := i_add ez61 (by decide) rfl (by omega)
            exact W.iret (v := z61) hx hb hr (fun t ht hW => ⟨⟨z61, (), rfl, ⟨(show 0 ≤ z61.toInt ∧ z61.toInt ≤ 32 from by first | omega | ((try (have i_lob := Imp.go lob (by omega))); omega)), (show z61.toInt = ((gk : Nat) : Int) from by first | omega | ((try (have i_lob := Imp.go lob (by omega))); omega))⟩, by rw [ht]; exact hP, va_K.moved hW.alike hK, hD⟩, hS.F ht⟩) hS.2.2 dJ6_numberOfTrailingZeros_0f7a4_79
          · skip
            have f62 : 4 < z53.toInt := b_nle rfl (by decide) c58
            refine lv_iinc (v := 19) (lv' := [(1, .int 19), (0, .int z53)]) hx hb dJ6_numberOfTrailingZeros_0f7a4_67 hl (k := 1) rfl (by decide) (by decide) rfl (fun ls hl => ?_)
            refine lv_iload_n hx hb dJ6_numberOfTrailingZeros_0f7a4_70 rfl (lv_at hl 1 rfl) ?_
            refine lv_iconst (v := 2) hx hb dJ6_numberOfTrailingZeros_0f7a4_71 (by decide) ?_
            refine lv_iushr hx hb dJ6_numberOfTrailingZeros_0f7a4_72 rfl ?_
            refine lv_topi (fun z63 ez63 => ?_)
            have hz63 : z63.toInt = z53.toInt / 4 := ushr_l (P := 4) (k := 2) ez63 (by first | omega | ((try (have i_lob := Imp.go lob (by omega))); omega)) (by decide) (by decide) (by decide)
            refine lv_istore_n (lv' := [(0, .int z63), (1, .int 19)]) hx hb dJ6_numberOfTrailingZeros_0f7a4_73 rfl hl (by decide) rfl (fun ls hl => ?_)
            refine lv_iload_n hx hb dJ6_numberOfTrailingZeros_0f7a4_74 rfl (lv_at hl 1 rfl) ?_
            refine lv_iload_n hx hb dJ6_numberOfTrailingZeros_0f7a4_75 rfl (lv_at hl 0 rfl) ?_
            refine lv_iconst (v := 1) hx hb dJ6_numberOfTrailingZeros_0f7a4_76 (by decide) ?_
            refine lv_iushr hx hb dJ6_numberOfTrailingZeros_0f7a4_77 rfl ?_
            refine lv_topi (fun z64 ez64 => ?_)
            have hz64 : z64.toInt = z63.toInt / 2 := ushr_l (P := 2) (k := 1) ez64 (by first | omega | ((try (have i_lob := Imp.go lob (by omega))); omega)) (by decide) (by decide) (by decide)
            refine lv_iadd hx hb dJ6_numberOfTrailingZeros_0f7a4_78 ?_
            refine lv_topi (fun z65 ez65 => ?_)
            have hz65 : z65.toInt = 19 + z64.toInt := i_add ez65 (by decide) rfl (by omega)
            exact W.iret (v := z65) hx hb hr (fun t ht hW => ⟨⟨z65, (), rfl, ⟨(show 0 ≤ z65.toInt ∧ z65.toInt ≤ 32 from by first | omega | ((try (have i_lob := Imp.go lob (by omega))); omega)), (show z65.toInt = ((gk : Nat) : Int) from by first | omega | ((try (have i_lob := Imp.go lob (by omega))); omega))⟩, by rw [ht]; exact hP, va_K.moved hW.alike hK, hD⟩, hS.F ht⟩) hS.2.2 dJ6_numberOfTrailingZeros_0f7a4_79
        · skip
          have f66 : 16 < z53.toInt := b_nle rfl (by decide) c56
          refine lv_iinc (v := 21) (lv' := [(1, .int 21), (0, .int z53)]) hx hb dJ6_numberOfTrailingZeros_0f7a4_55 hl (k := 1) rfl (by decide) (by decide) rfl (fun ls hl => ?_)
          refine lv_iload_n hx hb dJ6_numberOfTrailingZeros_0f7a4_58 rfl (lv_at hl 1 rfl) ?_
          refine lv_iconst (v := 4) hx hb dJ6_numberOfTrailingZeros_0f7a4_59 (by decide) ?_
          refine lv_iushr hx hb dJ6_numberOfTrailingZeros_0f7a4_60 rfl ?_
          refine lv_topi (fun z67 ez67 => ?_)
          have hz67 : z67.toInt = z53.toInt / 16 := ushr_l (P := 16) (k := 4) ez67 (by first | omega | ((try (have i_lob := Imp.go lob (by omega))); omega)) (by decide) (by decide) (by decide)
          refine lv_istore_n (lv' := [(0, .int z67), (1, .int 21)]) hx hb dJ6_numberOfTrailingZeros_0f7a4_61 rfl hl (by decide) rfl (fun ls hl => ?_)
          refine lv_iload_n hx hb dJ6_numberOfTrailingZeros_0f7a4_62 rfl (lv_at hl 0 rfl) ?_
          refine lv_iconst (v := 4) hx hb dJ6_numberOfTrailingZeros_0f7a4_63 (by decide) ?_
          refine lv_icmp_le (tgt := 74) hx hb dJ6_numberOfTrailingZeros_0f7a4_64 (by decide) (fun c68 => ?_) (fun c68 => ?_)
          · skip
            have f69 : z67.toInt ≤ 4 := b_le rfl (by decide) c68
            refine lv_iload_n hx hb dJ6_numberOfTrailingZeros_0f7a4_74 rfl (lv_at hl 1 rfl) ?_
            refine lv_iload_n hx hb dJ6_numberOfTrailingZeros_0f7a4_75 rfl (lv_at hl 0 rfl) ?_
            refine lv_iconst (v := 1) hx hb dJ6_numberOfTrailingZeros_0f7a4_76 (by decide) ?_
            refine lv_iushr hx hb dJ6_numberOfTrailingZeros_0f7a4_77 rfl ?_
            refine lv_topi (fun z70 ez70 => ?_)
            have hz70 : z70.toInt = z67.toInt / 2 := ushr_l (P := 2) (k := 1) ez70 (by first | omega | ((try (have i_lob := Imp.go lob (by omega))); omega)) (by decide) (by decide) (by decide)
            refine lv_iadd hx hb dJ6_numberOfTrailingZeros_0f7a4_78 ?_
            refine lv_topi (fun z71 ez71 => ?_)
            have hz71 : z71.toInt = 21 + z70.toInt := i_add ez71 (by decide) rfl (by omega)
            exact W.iret (v := z71) hx hb hr (fun t ht hW => ⟨⟨z71, (), rfl, ⟨(show 0 ≤ z71.toInt ∧ z71.toInt ≤ 32 from by first | omega | ((try (have i_lob := Imp.go lob (by omega))); omega)), (show z71.toInt = ((gk : Nat) : Int) from by first | omega | ((try (have i_lob := Imp.go lob (by omega))); omega))⟩, by rw [ht]; exact hP, va_K.moved hW.alike hK, hD⟩, hS.F ht⟩) hS.2.2 dJ6_numberOfTrailingZeros_0f7a4_79
          · skip
            have f72 : 4 < z67.toInt := b_nle rfl (by decide) c68
            refine lv_iinc (v := 23) (lv' := [(1, .int 23), (0, .int z67)]) hx hb dJ6_numberOfTrailingZeros_0f7a4_67 hl (k := 1) rfl (by decide) (by decide) rfl (fun ls hl => ?_)
            refine lv_iload_n hx hb dJ6_numberOfTrailingZeros_0f7a4_70 rfl (lv_at hl 1 rfl) ?_
            refine lv_iconst (v := 2) hx hb dJ6_numberOfTrailingZeros_0f7a4_71 (by decide) ?_
            refine lv_iushr hx hb dJ6_numberOfTrailingZeros_0f7a4_72 rfl ?_
            refine lv_topi (fun z73 ez73 => ?_)
            have hz73 : z73.toInt = z67.toInt / 4 := ushr_l (P := 4) (k := 2) ez73 (by first | omega | ((try (have i_lob := Imp.go lob (by omega))); omega)) (by decide) (by decide) (by decide)
            refine lv_istore_n (lv' := [(0, .int z73), (1, .int 23)]) hx hb dJ6_numberOfTrailingZeros_0f7a4_73 rfl hl (by decide) rfl (fun ls hl => ?_)
            refine lv_iload_n hx hb dJ6_numberOfTrailingZeros_0f7a4_74 rfl (lv_at hl 1 rfl) ?_
            refine lv_iload_n hx hb dJ6_numberOfTrailingZeros_0f7a4_75 rfl (lv_at hl 0 rfl) ?_
            refine lv_iconst (v := 1) hx hb dJ6_numberOfTrailingZeros_0f7a4_76 (by decide) ?_
            refine lv_iushr hx hb dJ6_numberOfTrailingZeros_0f7a4_77 rfl ?_
            refine lv_topi (fun z74 ez74 => ?_)
            have hz74 : z74.toInt = z73.toInt / 2 := ushr_l (P := 2) (k := 1) ez74 (by first | omega | ((try (have i_lob := Imp.go lob (by omega))); omega)) (by decide) (by decide) (by decide)
            refine lv_iadd hx hb dJ6_numberOfTrailingZeros_0f7a4_78 ?_
            refine lv_topi (fun z75 ez75 => ?_)
            have hz75 : z75.toInt = 23 + z74.toInt := i_add ez75 (by decide) rfl (by omega)
            exact W.iret (v := z75) hx hb hr (fun t ht hW => ⟨⟨z75, (), rfl, ⟨(show 0 ≤ z75.toInt ∧ z75.toInt ≤ 32 from by first | omega | ((try (have i_lob := Imp.go lob (by omega))); omega)), (show z75.toInt = ((gk : Nat) : Int) from by first | omega | ((try (have i_lob := Imp.go lob (by omega))); omega))⟩, by rw [ht]; exact hP, va_K.moved hW.alike hK, hD⟩, hS.F ht⟩) hS.2.2 dJ6_numberOfTrailingZeros_0f7a4_79
      · skip
        have f76 : 256 < z53.toInt := b_nle rfl (by decide) c54
        refine lv_iinc (v := 25) (lv' := [(1, .int 25), (0, .int z53)]) hx hb dJ6_numberOfTrailingZeros_0f7a4_41 hl (k := 1) rfl (by decide) (by decide) rfl (fun ls hl => ?_)
        refine lv_iload_n hx hb dJ6_numberOfTrailingZeros_0f7a4_44 rfl (lv_at hl 1 rfl) ?_
        refine lv_bipush (v := 8) hx hb dJ6_numberOfTrailingZeros_0f7a4_45 (by decide) ?_
        refine lv_iushr hx hb dJ6_numberOfTrailingZeros_0f7a4_47 rfl ?_
        refine lv_topi (fun z77 ez77 => ?_)
        have hz77 : z77.toInt = z53.toInt / 256 := ushr_l (P := 256) (k := 8) ez77 (by first | omega | ((try (have i_lob := Imp.go lob (by omega))); omega)) (by decide) (by decide) (by decide)
        refine lv_istore_n (lv' := [(0, .int z77), (1, .int 25)]) hx hb dJ6_numberOfTrailingZeros_0f7a4_48 rfl hl (by decide) rfl (fun ls hl => ?_)
        refine lv_iload_n hx hb dJ6_numberOfTrailingZeros_0f7a4_49 rfl (lv_at hl 0 rfl) ?_
        refine lv_bipush (v := 16) hx hb dJ6_numberOfTrailingZeros_0f7a4_50 (by decide) ?_
        refine lv_icmp_le (tgt := 62) hx hb dJ6_numberOfTrailingZeros_0f7a4_52 (by decide) (fun c78 => ?_) (fun c78 => ?_)
        · skip
          have f79 : z77.toInt ≤ 16 := b_le rfl (by decide) c78
          refine lv_iload_n hx hb dJ6_numberOfTrailingZeros_0f7a4_62 rfl (lv_at hl 0 rfl) ?_
          refine lv_iconst (v := 4) hx hb dJ6_numberOfTrailingZeros_0f7a4_63 (by decide) ?_
          refine lv_icmp_le (tgt := 74) hx hb dJ6_numberOfTrailingZeros_0f7a4_64 (by decide) (fun c80 => ?_) (fun c80 => ?_)
          · skip
            have f81 : z77.toInt ≤ 4 := b_le rfl (by decide) c80
            refine lv_iload_n hx hb dJ6_numberOfTrailingZeros_0f7a4_74 rfl (lv_at hl 1 rfl) ?_
            refine lv_iload_n hx hb dJ6_numberOfTrailingZeros_0f7a4_75 rfl (lv_at hl 0 rfl) ?_
            refine lv_iconst (v := 1) hx hb dJ6_numberOfTrailingZeros_0f7a4_76 (by decide) ?_
            refine lv_iushr hx hb dJ6_numberOfTrailingZeros_0f7a4_77 rfl ?_
            refine lv_topi (fun z82 ez82 => ?_)
            have hz82 : z82.toInt = z77.toInt / 2 := ushr_l (P := 2) (k := 1) ez82 (by first | omega | ((try (have i_lob := Imp.go lob (by omega))); omega)) (by decide) (by decide) (by decide)
            refine lv_iadd hx hb dJ6_numberOfTrailingZeros_0f7a4_78 ?_
            refine lv_topi (fun z83 ez83 => ?_)
            have hz83 : z83.toInt = 25 + z82.toInt := i_add ez83 (by decide) rfl (by omega)
            exact W.iret (v := z83) hx hb hr (fun t ht hW => ⟨⟨z83, (), rfl, ⟨(show 0 ≤ z83.toInt ∧ z83.toInt ≤ 32 from by first | omega | ((try (have i_lob := Imp.go lob (by omega))); omega)), (show z83.toInt = ((gk : Nat) : Int) from by first | omega | ((try (have i_lob := Imp.go lob (by omega))); omega))⟩, by rw [ht]; exact hP, va_K.moved hW.alike hK, hD⟩, hS.F ht⟩) hS.2.2 dJ6_numberOfTrailingZeros_0f7a4_79
          · skip
            have f84 : 4 < z77.toInt := b_nle rfl (by decide) c80
            refine lv_iinc (v := 27) (lv' := [(1, .int 27), (0, .int z77)]) hx hb dJ6_numberOfTrailingZeros_0f7a4_67 hl (k := 1) rfl (by decide) (by decide) rfl (fun ls hl => ?_)
            refine lv_iload_n hx hb dJ6_numberOfTrailingZeros_0f7a4_70 rfl (lv_at hl 1 rfl) ?_
            refine lv_iconst (v := 2) hx hb dJ6_numberOfTrailingZeros_0f7a4_71 (by decide) ?_
            refine lv_iushr hx hb dJ6_numberOfTrailingZeros_0f7a4_72 rfl ?_
            refine lv_topi (fun z85 ez85 => ?_)
            have hz85 : z85.toInt = z77.toInt / 4 := ushr_l (P := 4) (k := 2) ez85 (by first | omega | ((try (have i_lob := Imp.go lob (by omega))); omega)) (by decide) (by decide) (by decide)
            refine lv_istore_n (lv' := [(0, .int z85), (1, .int 27)]) hx hb dJ6_numberOfTrailingZeros_0f7a4_73 rfl hl (by decide) rfl (fun ls hl => ?_)
            refine lv_iload_n hx hb dJ6_numberOfTrailingZeros_0f7a4_74 rfl (lv_at hl 1 rfl) ?_
            refine lv_iload_n hx hb dJ6_numberOfTrailingZeros_0f7a4_75 rfl (lv_at hl 0 rfl) ?_
            refine lv_iconst (v := 1) hx hb dJ6_numberOfTrailingZeros_0f7a4_76 (by decide) ?_
            refine lv_iushr hx hb dJ6_numberOfTrailingZeros_0f7a4_77 rfl ?_
            refine lv_topi (fun z86 ez86 => ?_)
            have hz86 : z86.toInt = z85.toInt / 2 := ushr_l (P := 2) (k := 1) ez86 (by first | omega | ((try (have i_lob := Imp.go lob (by omega))); omega)) (by decide) (by decide) (by decide)
            refine lv_iadd hx hb dJ6_numberOfTrailingZeros_0f7a4_78 ?_
            refine lv_topi (fun z87 ez87 => ?_)
            have hz87 : z87.toInt = 27 + z86.toInt := i_add ez87 (by decide) rfl (by omega)
            exact W.iret (v := z87) hx hb hr (fun t ht hW => ⟨⟨z87, (), rfl, ⟨(show 0 ≤ z87.toInt ∧ z87.toInt ≤ 32 from by first | omega | ((try (have i_lob := Imp.go lob (by omega))); omega)), (show z87.toInt = ((gk : Nat) : Int) from by first | omega | ((try (have i_lob := Imp.go lob (by omega))); omega))⟩, by rw [ht]; exact hP, va_K.moved hW.alike hK, hD⟩, hS.F ht⟩) hS.2.2 dJ6_numberOfTrailingZeros_0f7a4_79
        · skip
          have f88 : 16 < z77.toInt := b_nle rfl (by decide) c78
          refine lv_iinc (v := 29) (lv' := [(1, .int 29), (0, .int z77)]) hx hb dJ6_numberOfTrailingZeros_0f7a4_55 hl (k := 1) rfl (by decide) (by decide) rfl (fun ls hl => ?_)
          refine lv_iload_n hx hb dJ6_numberOfTrailingZeros_0f7a4_58 rfl (lv_at hl 1 rfl) ?_
          refine lv_iconst (v := 4) hx hb dJ6_numberOfTrailingZeros_0f7a4_59 (by decide) ?_
          refine lv_iushr hx hb dJ6_numberOfTrailingZeros_0f7a4_60 rfl ?_
          refine lv_topi (fun z89 ez89 => ?_)
          have hz89 : z89.toInt = z77.toInt / 16 := ushr_l (P := 16) (k := 4) ez89 (by first | omega | ((try (have i_lob := Imp.go lob (by omega))); omega)) (by decide) (by decide) (by decide)
          refine lv_istore_n (lv' := [(0, .int z89), (1, .int 29)]) hx hb dJ6_numberOfTrailingZeros_0f7a4_61 rfl hl (by decide) rfl (fun ls hl => ?_)
          refine lv_iload_n hx hb dJ6_numberOfTrailingZeros_0f7a4_62 rfl (lv_at hl 0 rfl) ?_
          refine lv_iconst (v := 4) hx hb dJ6_numberOfTrailingZeros_0f7a4_63 (by decide) ?_
          refine lv_icmp_le (tgt := 74) hx hb dJ6_numberOfTrailingZeros_0f7a4_64 (by decide) (fun c90 => ?_) (fun c90 => ?_)
          · skip
            have f91 : z89.toInt ≤ 4 := b_le rfl (by decide) c90
            refine lv_iload_n hx hb dJ6_numberOfTrailingZeros_0f7a4_74 rfl (lv_at hl 1 rfl) ?_
            refine lv_iload_n hx hb dJ6_numberOfTrailingZeros_0f7a4_75 rfl (lv_at hl 0 rfl) ?_
            refine lv_iconst (v := 1) hx hb dJ6_numberOfTrailingZeros_0f7a4_76 (by decide) ?_
            refine lv_iushr hx hb dJ6_numberOfTrailingZeros_0f7a4_77 rfl ?_
            refine lv_topi (fun z92 ez92 => ?_)
            have hz92 : z92.toInt = z89.toInt / 2 := ushr_l (P := 2) (k := 1) ez92 (by first | omega | ((try (have i_lob := Imp.go lob (by omega))); omega)) (by decide) (by decide) (by decide)
            refine lv_iadd hx hb dJ6_numberOfTrailingZeros_0f7a4_78 ?_
            refine lv_topi (fun z93 ez93 => ?_)
            have hz93 : z93.toInt = 29 + z92.toInt := i_add ez93 (by decide) rfl (by omega)
            exact W.iret (v := z93) hx hb hr (fun t ht hW => ⟨⟨z93, (), rfl, ⟨(show 0 ≤ z93.toInt ∧ z93.toInt ≤ 32 from by first | omega | ((try (have i_lob := Imp.go lob (by omega))); omega)), (show z93.toInt = ((gk : Nat) : Int) from by first | omega | ((try (have i_lob := Imp.go lob (by omega))); omega))⟩, by rw [ht]; exact hP, va_K.moved hW.alike hK, hD⟩, hS.F ht⟩) hS.2.2 dJ6_numberOfTrailingZeros_0f7a4_79
          · skip
            have f94 : 4 < z89.toInt := b_nle rfl (by decide) c90
            refine lv_iinc (v := 31) (lv' := [(1, .int 31), (0, .int z89)]) hx hb dJ6_numberOfTrailingZeros_0f7a4_67 hl (k := 1) rfl (by decide) (by decide) rfl (fun ls hl => ?_)
            refine lv_iload_n hx hb dJ6_numberOfTrailingZeros_0f7a4_70 rfl (lv_at hl 1 rfl) ?_
            refine lv_iconst (v := 2) hx hb dJ6_numberOfTrailingZeros_0f7a4_71 (by decide) ?_
            refine lv_iushr hx hb dJ6_numberOfTrailingZeros_0f7a4_72 rfl ?_
            refine lv_topi (fun z95 ez95 => ?_)
            have hz95 : z95.toInt = z89.toInt / 4 := ushr_l (P := 4) (k := 2) ez95 (by first | omega | ((try (have i_lob := Imp.go lob (by omega))); omega)) (by decide) (by decide) (by decide)
            refine lv_istore_n (lv' := [(0, .int z95), (1, .int 31)]) hx hb dJ6_numberOfTrailingZeros_0f7a4_73 rfl hl (by decide) rfl (fun ls hl => ?_)
            refine lv_iload_n hx hb dJ6_numberOfTrailingZeros_0f7a4_74 rfl (lv_at hl 1 rfl) ?_
            refine lv_iload_n hx hb dJ6_numberOfTrailingZeros_0f7a4_75 rfl (lv_at hl 0 rfl) ?_
            refine lv_iconst (v := 1) hx hb dJ6_numberOfTrailingZeros_0f7a4_76 (by decide) ?_
            refine lv_iushr hx hb dJ6_numberOfTrailingZeros_0f7a4_77 rfl ?_
            refine lv_topi (fun z96 ez96 => ?_)
            have hz96 : z96.toInt = z95.toInt / 2 := ushr_l (P := 2) (k := 1) ez96 (by first | omega | ((try (have i_lob := Imp.go lob (by omega))); omega)) (by decide) (by decide) (by decide)
            refine lv_iadd hx hb dJ6_numberOfTrailingZeros_0f7a4_78 ?_
            refine lv_topi (fun z97 ez97 => ?_)
            have hz97 : z97.toInt = 31 + z96.toInt := i_add ez97 (by decide) rfl (by omega)
            exact W.iret (v := z97) hx hb hr (fun t ht hW => ⟨⟨z97, (), rfl, ⟨(show 0 ≤ z97.toInt ∧ z97.toInt ≤ 32 from by first | omega | ((try (have i_lob := Imp.go lob (by omega))); omega)), (show z97.toInt = ((gk : Nat) : Int) from by first | omega | ((try (have i_lob := Imp.go lob (by omega))); omega))⟩, by rw [ht]; exact hP, va_K.moved hW.alike hK, hD⟩, hS.F ht⟩) hS.2.2 dJ6_numberOfTrailingZeros_0f7a4_79
  · skip
    have f98 : z3.toInt ≤ 0 := b_nlt (by decide) rfl c4
    refine lv_iload_n hx hb dJ6_numberOfTrailingZeros_0f7a4_12 rfl (lv_at hl 0 rfl) ?_
    refine lv_bipush (v := 32) hx hb dJ6_numberOfTrailingZeros_0f7a4_13 (by decide) ?_
    refine lv_iand hx hb dJ6_numberOfTrailingZeros_0f7a4_15 ?_
    refine lv_topi (fun z99 ez99 => ?_)
    have hq1 : 0 ≤ z99.toInt ∧ z99.toInt ≤ 32 := and_m ez99 (by decide)
    have hq2 : 0 ≤ z3.toInt → 0 ≤ z99.toInt ∧ z99.toInt ≤ z3.toInt := fun h => and_left ez99 h
    exact W.iret (v := z99) hx hb hr (fun t ht hW => ⟨⟨z99, (), rfl, ⟨(show 0 ≤ z99.toInt ∧ z99.toInt ≤ 32 from by first | exact om_83f5e4ef2f8c f98 hq1.1 hq2.2 | first | omega | ((try (have i_lob := Imp.go lob (by omega))); omega)), (show z99.toInt = ((gk : Nat) : Int) from by first | omega | ((try (have i_lob := Imp.go lob (by omega))); omega))⟩, by rw [ht]; exact hP, va_K.moved hW.alike hK, hD⟩, hS.F ht⟩) hS.2.2 dJ6_numberOfTrailingZeros_0f7a4_16
abbrev r_x_bhas10 : Room := { frames := 0, cells := 0, slots := 0, locals := 0 }
abbrev q_x_bhas10 (D : va_G) (ks : KS) (ad : Nat → Nat) (kk : Nat → ClassId) (V : Vf) (L : Lf) (Z : XZ) (p0 : Int32) (b : Nat) (A : Nat → Prop) : Array Value → State → Outcome → State → Prop := va_Qi (fun (r : Int32) (_ : Unit) => (0 ≤ r.toInt ∧ r.toInt ≤ 1) ∧ ((r.toInt = 1 ∧ 0 ≤ p0.toInt ∧ p0.toInt < (V 43 (5 * b + 2)).toInt) ∨ (r.toInt = 0 ∧ (p0.toInt < 0 ∨ (V 43 (5 * b + 2)).toInt ≤ p0.toInt)))) (fun _ t => gq D A (xw ad kk V L Z) (xty kk Z) t) A
set_option maxHeartbeats 4000000 in
set_option maxRecDepth 100000 in
theorem x_bhas10 (l : Launch) (D : va_G) (ks : KS) (sz : Nat) (ad : Nat → Nat) (kk : Nat → ClassId) (V : Vf) (L : Lf) (Z : XZ) (p0 : Int32) (b : Nat) (hMV : rgd bX V) (hb2 : b < 2)  : Met l yX0_has (Cond.code yX0_has cX0_has 2 (some .boolean) :: GW) r_x_bhas10 (va_Pc [.ref (ad (38 + b)), .int p0] (gp D ks (xw ad kk V L Z) (xty kk Z) sz)) (q_x_bhas10 D ks ad kk V L Z p0 b (va_A (xw ad kk V L Z) sz)) 0 0 (va_A (xw ad kk V L Z) sz) := by
  refine g_met (q_x_bhas10 D ks ad kk V L Z p0 b) (by decide) (Nat.le_of_ble_eq_true rfl) ?_
  intro p e s m below meth c A ls H locs hx hb hr hml hown hg hlocks hin hnw hgk hP hK hD hS hA hl
  have hown : s.vm.findClass RX0 = some m.cls := hown
  have hl : lv_has ls 2 [(0, .ref (ad (38 + b))), (1, .int p0)] := hl
  have hP : va_P D vwCl (xw ad kk V L Z) H := hP
  have hD : va_D A (xw ad kk V L Z) := hD
  have hK : va_K D vwCl (xty kk Z) s := hK
  refine lv_iload_n hx hb dX0_has_0 rfl (lv_at hl 1 rfl) ?_
  refine lv_if_lt (tgt := 19) hx hb dX0_has_1 (by decide) (fun c1 => ?_) (fun c1 => ?_)
  · skip
    have f2 : p0.toInt < 0 := b_lt rfl (by decide) c1
    refine lv_iconst (v := 0) hx hb dX0_has_19 (by decide) ?_
    have r3 : 0 ≤ ((V 43 (5 * b + 2))).toInt ∧ ((V 43 (5 * b + 2))).toInt ≤ ((xcap (5 * b + 2) : Nat) : Int) := hMV 43 (5 * b + 2)
    have r4 : xcap (5 * b + 2) = 24 := xcap_2
    exact W.zret (v := 0) hx hb hr rfl (fun t ht hW => ⟨⟨0, (), rfl, ⟨(by decide), (show (0 = 1 ∧ 0 ≤ p0.toInt ∧ p0.toInt < (V 43 (5 * b + 2)).toInt) ∨ (0 = 0 ∧ (p0.toInt < 0 ∨ (V 43 (5 * b + 2)).toInt ≤ p0.toInt)) from by omega)⟩, by rw [ht]; exact hP, va_K.moved hW.alike hK, hD⟩, hS.F ht⟩) hS.2.2 dX0_has_20
  · skip
    have f5 : 0 ≤ p0.toInt := b_nlt rfl (by decide) c1
    refine lv_iload_n hx hb dX0_has_4 rfl (lv_at hl 1 rfl) ?_
    refine lv_aload_n hx hb dX0_has_5 rfl (lv_at hl 0 rfl) ?_
    refine va_get (D := D) (ci := 0) (v := .ref (ad (40 + (5 * b + 2)))) (fs := (xfBook ad V b)) (C := RX0) (T := TX0) (N := 13) hx hb hg inX0 hown hK hP (38 + b) (xgBook hb2) rfl 2 (by decide) (hg _ w599) (fun _ h9 => h9) rfl dX0_has_6 ?_
    have il6 : (5 * b + 2) < 10 := by (first | exact om_1478e52fbf50 hb2 | omega)
    refine va_getN (D := D) (ci := 6) (v := .int (V 43 (5 * b + 2))) (fs := (xfNames ad V (5 * b + 2))) (C := RX6) (T := TX6) (N := 2) hx hb hg inX6 hown hK hP (40 + (5 * b + 2)) (xgNames il6) rfl 1 (by decide) (hnw.use 481 n481 rfl) (fun _ h9 => h9) rfl dX0_has_9 ?_
    have r7 : 0 ≤ ((V 43 (5 * b + 2))).toInt ∧ ((V 43 (5 * b + 2))).toInt ≤ ((xcap (5 * b + 2) : Nat) : Int) := hMV 43 (5 * b + 2)
    have r8 : xcap (5 * b + 2) = 24 := xcap_2
    refine lv_icmp_ge (tgt := 19) hx hb dX0_has_12 (by decide) (fun c9 => ?_) (fun c9 => ?_)
    · skip
      have f10 : ((V 43 (5 * b + 2))).toInt ≤ p0.toInt := b_le rfl rfl c9
      refine lv_iconst (v := 0) hx hb dX0_has_19 (by decide) ?_
      exact W.zret (v := 0) hx hb hr rfl (fun t ht hW => ⟨⟨0, (), rfl, ⟨(by decide), (show (0 = 1 ∧ 0 ≤ p0.toInt ∧ p0.toInt < (V 43 (5 * b + 2)).toInt) ∨ (0 = 0 ∧ (p0.toInt < 0 ∨ (V 43 (5 * b + 2)).toInt ≤ p0.toInt)) from by omega)⟩, by rw [ht]; exact hP, va_K.moved hW.alike hK, hD⟩, hS.F ht⟩) hS.2.2 dX0_has_20
    · skip
      have f11 : p0.toInt < ((V 43 (5 * b + 2))).toInt := b_nle rfl rfl c9
      refine lv_iconst (v := 1) hx hb dX0_has_15 (by decide) ?_
      refine lv_goto (tgt := 20) hx hb dX0_has_16 (by decide) ?_
      exact W.zret (v := 1) hx hb hr rfl (fun t ht hW => ⟨⟨1, (), rfl, ⟨(by decide), (show (1 = 1 ∧ 0 ≤ p0.toInt ∧ p0.toInt < (V 43 (5 * b + 2)).toInt) ∨ (1 = 0 ∧ (p0.toInt < 0 ∨ (V 43 (5 * b + 2)).toInt ≤ p0.toInt)) from by omega)⟩, by rw [ht]; exact hP, va_K.moved hW.alike hK, hD⟩, hS.F ht⟩) hS.2.2 dX0_has_20
abbrev r_x_h_candidate10 : Room := { frames := 2, cells := 0, slots := 0, locals := 53 }
abbrev q_x_h_candidate10 (D : va_G) (ks : KS) (ad : Nat → Nat) (kk : Nat → ClassId) (V : Vf) (L : Lf) (Z : XZ) (p0 : Int32) (p1 : Int32) (p2 : Int32) (b : Nat) (gs : St) (gv : Nat → Int) (A : Nat → Prop) : Array Value → State → Outcome → State → Prop := va_Qi (fun (r : Int32) (_ : Unit) => (r.toInt = cnA gs.1 gv (gs.2.1 2).length p0.toInt p1.toInt p2.toInt)) (fun _ t => gq D A (xw ad kk V L Z) (xty kk Z) t) A
set_option maxHeartbeats 4000000 in
set_option maxRecDepth 100000 in
theorem x_h_candidate10 (l : Launch) (D : va_G) (ks : KS) (sz : Nat) (ad : Nat → Nat) (kk : Nat → ClassId) (V : Vf) (L : Lf) (Z : XZ) (p0 : Int32) (p1 : Int32) (p2 : Int32) (b : Nat) (gs : St) (gv : Nat → Int) (hMV : rgd bX V) (hb2 : b < 2) (shk : (V 0 6).toInt = (b : Int)) (coc : COc V b gs) (wh : WHs gs) (ln : (V 43 (5 * b + 2)).toInt = (((gs.2.1 2).length : Nat) : Int)) (ln2 : (gs.2.1 2).length ≤ 24) (hsv : svc V b (gs.2.1 1).length = gv)  : Met l yX11_candidate (Cond.code yX11_candidate cX11_candidate 6 (some .int) :: GW) r_x_h_candidate10 (va_Pc [.ref (ad 0), .int p0, .int p1, .int p2] (gp D ks (xw ad kk V L Z) (xty kk Z) sz)) (q_x_h_candidate10 D ks ad kk V L Z p0 p1 p2 b gs gv (va_A (xw ad kk V L Z) sz)) 0 0 (va_A (xw ad kk V L Z) sz) := by
  refine g_met (q_x_h_candidate10 D ks ad kk V L Z p0 p1 p2 b gs gv) (by decide) (Nat.le_of_ble_eq_true rfl) ?_
  intro p e s m below meth c A ls H locs hx hb hr hml hown hg hlocks hin hnw hgk hP hK hD hS hA hl
  have hown : s.vm.findClass RX11 = some m.cls := hown
  have hl : lv_has ls 6 [(0, .ref (ad 0)), (1, .int p0), (2, .int p1), (3, .int p2)] := hl
  have hP : va_P D vwCl (xw ad kk V L Z) H := hP
  have hD : va_D A (xw ad kk V L Z) := hD
  have hK : va_K D vwCl (xty kk Z) s := hK
  have r1 : 0 ≤ ((V 0 6)).toInt ∧ ((V 0 6)).toInt ≤ 1 := hMV 0 6
  have r2 : 0 ≤ ((V 43 (5 * b + 2))).toInt ∧ ((V 43 (5 * b + 2))).toInt ≤ ((xcap (5 * b + 2) : Nat) : Int) := hMV 43 (5 * b + 2)
  have r3 : xcap (5 * b + 2) = 24 := xcap_2
  have hf2 := i_full p2
  refine lv_aload_n hx hb dX11_candidate_0 rfl (lv_at hl 0 rfl) ?_
  refine va_get (D := D) (ci := 11) (v := .ref (ad (38 + Int32.toNatClampNeg (V 0 6)))) (fs := (xfHouse ad V L Z)) (C := RX11) (T := TX11) (N := 10) hx hb hg inX11 hown hK hP 0 xgHouse rfl 6 (by decide) (hg _ w721) (fun _ h9 => h9) rfl dX11_candidate_1 ?_
  refine g_topv (v := .ref (ad (38 + b))) (rfP (by first | omega | ((try (have i_hsv := Imp.go hsv (by omega))); (try (have i_wh := Imp.go wh (by omega))); (try (have i_coc := Imp.go coc (by omega))); (try (have i_coc := Imp.go coc (by omega))); (try (have i_wh := Imp.go wh (by omega))); (try (have i_hsv := Imp.go hsv (by omega))); omega))) ?_
  refine lv_iload_n hx hb dX11_candidate_4 rfl (lv_at hl 1 rfl) ?_
  refine gA_int (gA_runV (As := [.int p0]) (rest := []) (ci := 0) (q0 := (38 + b)) hx hb hml hown hg hP hD hK hS hA hnw hgk (x_bhas10 l D ks H.size ad kk V L Z p0 (b) hMV (show b < 2 from by first | exact om_f940a4667dd6 hb2 | first | omega | ((try (have i_hsv := Imp.go hsv (by omega))); (try (have i_wh := Imp.go wh (by omega))); (try (have i_coc := Imp.go coc (by omega))); (try (have i_coc := Imp.go coc (by omega))); (try (have i_wh := Imp.go wh (by omega))); (try (have i_hsv := Imp.go hsv (by omega))); omega))) w1137 w1138 w1139 w167 w1140 rfl (xgBook hb2) hdV_yX0_has ⟨Nat.le_of_ble_eq_true rfl, Nat.le_of_ble_eq_true rfl⟩ rfl hl.1 rfl (Nat.le_of_ble_eq_true rfl) dX11_candidate_5 ⟨Nat.le_of_ble_eq_true rfl, Nat.le_of_ble_eq_true rfl⟩) hP hD hK hS hA (fun z4 u5 H locs w6 hP hD hK hS => ?_)
  obtain ⟨rgz4, t7⟩ := w6
  have rgz4 : 0 ≤ z4.toInt ∧ z4.toInt ≤ 1 := rgz4
  have t7 : (z4.toInt = 1 ∧ 0 ≤ p0.toInt ∧ p0.toInt < (V 43 (5 * b + 2)).toInt) ∨ (z4.toInt = 0 ∧ (p0.toInt < 0 ∨ (V 43 (5 * b + 2)).toInt ≤ p0.toInt)) := t7
  refine lv_if_eq (tgt := 35) hx hb dX11_candidate_8 (by decide) (fun c8 => ?_) (fun c8 => ?_)
  · skip
    have f9 : z4.toInt = 0 := b_eq rfl (by decide) c8
    refine lv_iconst (v := (-1)) hx hb dX11_candidate_35 (by decide) ?_
    exact W.iret (v := (-1)) hx hb hr (fun t ht hW => ⟨⟨(-1), (), rfl, (by rw [cnA_n (fun h9 => by have h1 := h9.1; have h2 := h9.2.1; have h3 := h9.2.2.1; have h4 := h9.2.2.2.1; have h5 := h9.2.2.2.2; omega)]; decide), by rw [ht]; exact hP, va_K.moved hW.alike hK, hD⟩, hS.F ht⟩) hS.2.2 dX11_candidate_36
  · skip
    have f10 : z4.toInt ≠ 0 := b_neq rfl (by decide) c8
    have kc0 := i_clamp (x := p0) rfl (by omega)
    have k0l : (Int32.toNatClampNeg p0) < (gs.2.1 2).length := by omega
    have h49 : (V 49 (24 * b + (Int32.toNatClampNeg p0))).toInt = ((gs.1 (66 + 8 * (Int32.toNatClampNeg p0)) : Nat) : Int) := (coc _ k0l).2.1
    have g08 := (coc _ k0l).2.2.1
    have fe9 : p0.toInt.toNat = (Int32.toNatClampNeg p0) := rfl
    refine lv_iload_n hx hb dX11_candidate_11 rfl (lv_at hl 2 rfl) ?_
    refine lv_if_lt (tgt := 35) hx hb dX11_candidate_12 (by decide) (fun c11 => ?_) (fun c11 => ?_)
    · skip
      have f12 : p1.toInt < 0 := b_lt rfl (by decide) c11
      refine lv_iconst (v := (-1)) hx hb dX11_candidate_35 (by decide) ?_
      exact W.iret (v := (-1)) hx hb hr (fun t ht hW => ⟨⟨(-1), (), rfl, (by rw [cnA_n (fun h9 => by have h1 := h9.1; have h2 := h9.2.1; have h3 := h9.2.2.1; have h4 := h9.2.2.2.1; have h5 := h9.2.2.2.2; rw [fe9] at h4; omega)]; decide), by rw [ht]; exact hP, va_K.moved hW.alike hK, hD⟩, hS.F ht⟩) hS.2.2 dX11_candidate_36
    · skip
      have f13 : 0 ≤ p1.toInt := b_nlt rfl (by decide) c11
      refine lv_iload_n hx hb dX11_candidate_15 rfl (lv_at hl 2 rfl) ?_
      refine lv_aload_n hx hb dX11_candidate_16 rfl (lv_at hl 0 rfl) ?_
      refine va_get (D := D) (ci := 11) (v := .ref (ad (38 + Int32.toNatClampNeg (V 0 6)))) (fs := (xfHouse ad V L Z)) (C := RX11) (T := TX11) (N := 10) hx hb hg inX11 hown hK hP 0 xgHouse rfl 6 (by decide) (hg _ w721) (fun _ h9 => h9) rfl dX11_candidate_17 ?_
      refine g_topv (v := .ref (ad (38 + b))) (rfP (by first | omega | ((try (have i_hsv := Imp.go hsv (by omega))); (try (have i_wh := Imp.go wh (by omega))); (try (have i_coc := Imp.go coc (by omega))); (try (have i_coc := Imp.go coc (by omega))); (try (have i_wh := Imp.go wh (by omega))); (try (have i_hsv := Imp.go hsv (by omega))); omega))) ?_
      refine va_getN (D := D) (ci := 0) (v := .ref (ad (64 + b))) (fs := (xfBook ad V b)) (C := RX0) (T := TX0) (N := 13) hx hb hg inX0 hown hK hP (38 + b) (xgBook hb2) rfl 7 (by decide) (hnw.use 617 n617 rfl) (fun _ h9 => h9) rfl dX11_candidate_20 ?_
      refine lv_iload_n hx hb dX11_candidate_23 rfl (lv_at hl 1 rfl) ?_
      have il14 : b < 2 := by first | exact om_f940a4667dd6 hb2 | first | omega | ((try (have i_hsv := Imp.go hsv (by omega))); (try (have i_wh := Imp.go wh (by omega))); (try (have i_coc := Imp.go coc (by omega))); (try (have i_coc := Imp.go coc (by omega))); (try (have i_wh := Imp.go wh (by omega))); (try (have i_hsv := Imp.go hsv (by omega))); omega)
      refine va_aldq (D := D) (i := p0) hx hb hK hP (64 + b) (57 + b) (xgcomps il14) (xtcomps il14) (i_in (a := p0.toInt) rfl (by first | exact om_90da46e2da0d ln2 kc0 k0l fe9 | first | omega | ((try (have i_hsv := Imp.go hsv (by omega))); (try (have i_wh := Imp.go wh (by omega))); (try (have i_coc := Imp.go coc (by omega))); (try (have i_coc := Imp.go coc (by omega))); (try (have i_wh := Imp.go wh (by omega))); (try (have i_hsv := Imp.go hsv (by omega))); omega))) dX11_candidate_24 ?_
      have kc15 := i_clamp (x := p0) rfl (by first | exact om_50dfdfbb9dc6 kc0 | first | omega | ((try (have i_hsv := Imp.go hsv (by omega))); (try (have i_wh := Imp.go wh (by omega))); (try (have i_coc := Imp.go coc (by omega))); (try (have i_coc := Imp.go coc (by omega))); (try (have i_wh := Imp.go wh (by omega))); (try (have i_hsv := Imp.go hsv (by omega))); omega))
      refine g_topv (v := .ref (ad (72 + (24 * b + (Int32.toNatClampNeg p0))))) (congrArg va_rf (if_pos (by first | omega | ((try (have i_hsv := Imp.go hsv (by omega))); (try (have i_wh := Imp.go wh (by omega))); (try (have i_coc := Imp.go coc (by omega))); (try (have i_coc := Imp.go coc (by omega))); (try (have i_wh := Imp.go wh (by omega))); (try (have i_hsv := Imp.go hsv (by omega))); omega)))) ?_
      have il16 : (24 * b + (Int32.toNatClampNeg p0)) < 48 := by first | exact om_1e2e575eba98 hb2 ln2 k0l | first | omega | ((try (have i_hsv := Imp.go hsv (by omega))); (try (have i_wh := Imp.go wh (by omega))); (try (have i_coc := Imp.go coc (by omega))); (try (have i_coc := Imp.go coc (by omega))); (try (have i_wh := Imp.go wh (by omega))); (try (have i_hsv := Imp.go hsv (by omega))); omega)
      refine va_getN (D := D) (ci := 3) (v := .int (V 49 (24 * b + (Int32.toNatClampNeg p0)))) (fs := (xfComp ad V (24 * b + (Int32.toNatClampNeg p0)))) (C := RX3) (T := TX3) (N := 13) hx hb hg inX3 hown hK hP (72 + (24 * b + (Int32.toNatClampNeg p0))) (xgComp il16) rfl 4 (by decide) (hnw.use 512 n512 rfl) (fun _ h9 => h9) rfl dX11_candidate_25 ?_
      have r17 : 0 ≤ ((V 49 (24 * b + (Int32.toNatClampNeg p0)))).toInt ∧ ((V 49 (24 * b + (Int32.toNatClampNeg p0)))).toInt ≤ 8 := hMV 49 (24 * b + (Int32.toNatClampNeg p0))
      refine lv_icmp_ge (tgt := 35) hx hb dX11_candidate_28 (by decide) (fun c18 => ?_) (fun c18 => ?_)
      · skip
        have f19 : ((V 49 (24 * b + (Int32.toNatClampNeg p0)))).toInt ≤ p1.toInt := b_le rfl rfl c18
        refine lv_iconst (v := (-1)) hx hb dX11_candidate_35 (by decide) ?_
        exact W.iret (v := (-1)) hx hb hr (fun t ht hW => ⟨⟨(-1), (), rfl, (by rw [cnA_n (fun h9 => by have h1 := h9.1; have h2 := h9.2.1; have h3 := h9.2.2.1; have h4 := h9.2.2.2.1; have h5 := h9.2.2.2.2; rw [fe9] at h4; omega)]; decide), by rw [ht]; exact hP, va_K.moved hW.alike hK, hD⟩, hS.F ht⟩) hS.2.2 dX11_candidate_36
      · skip
        have f20 : p1.toInt < ((V 49 (24 * b + (Int32.toNatClampNeg p0)))).toInt := b_nle rfl rfl c18
        refine lv_iload_n hx hb dX11_candidate_31 rfl (lv_at hl 3 rfl) ?_
        refine lv_if_ge (tgt := 37) hx hb dX11_candidate_32 (by decide) (fun c21 => ?_) (fun c21 => ?_)
        · skip
          have f22 : 0 ≤ p2.toInt := b_le (by decide) rfl c21
          have kc1 := i_clamp (x := p1) rfl (by (first | exact om_eafa9039069c f13 | omega))
          have kc2 := i_clamp (x := p2) rfl (by (first | exact om_eafa9039069c f22 | omega))
          have j0l : (Int32.toNatClampNeg p1) < gs.1 (66 + 8 * (Int32.toNatClampNeg p0)) := by omega
          refine lv_aload_n hx hb dX11_candidate_37 rfl (lv_at hl 0 rfl) ?_
          refine va_get (D := D) (ci := 11) (v := .ref (ad (38 + Int32.toNatClampNeg (V 0 6)))) (fs := (xfHouse ad V L Z)) (C := RX11) (T := TX11) (N := 10) hx hb hg inX11 hown hK hP 0 xgHouse rfl 6 (by decide) (hg _ w721) (fun _ h9 => h9) rfl dX11_candidate_38 ?_
          refine g_topv (v := .ref (ad (38 + b))) (rfP (by first | omega | ((try (have i_hsv := Imp.go hsv (by omega))); (try (have i_wh := Imp.go wh (by omega))); (try (have i_coc := Imp.go coc (by omega))); (try (have i_coc := Imp.go coc (by omega))); (try (have i_wh := Imp.go wh (by omega))); (try (have i_hsv := Imp.go hsv (by omega))); omega))) ?_
          refine lv_iload_n hx hb dX11_candidate_41 rfl (lv_at hl 1 rfl) ?_
          refine lv_iload_n hx hb dX11_candidate_42 rfl (lv_at hl 2 rfl) ?_
          refine gA_int (gA_runV (As := [.int p0, .int p1]) (rest := []) (ci := 0) (q0 := (38 + b)) hx hb hml hown hg hP hD hK hS hA hnw hgk (x_candidates5 l D ks H.size ad kk V L Z p0 p1 (b) (gs) ((Int32.toNatClampNeg p0)) ((Int32.toNatClampNeg p1)) hMV (by first | exact om_354e64b0fd76 ln2 kc0 k0l | first | omega | ((try (have i_hsv := Imp.go hsv (by omega))); (try (have i_wh := Imp.go wh (by omega))); (try (have i_coc := Imp.go coc (by omega))); (try (have i_coc := Imp.go coc (by omega))); (try (have i_wh := Imp.go wh (by omega))); (try (have i_hsv := Imp.go hsv (by omega))); omega)) (by first | exact om_45aa31722d3e f13 r17.2 f20 | first | omega | ((try (have i_hsv := Imp.go hsv (by omega))); (try (have i_wh := Imp.go wh (by omega))); (try (have i_coc := Imp.go coc (by omega))); (try (have i_coc := Imp.go coc (by omega))); (try (have i_wh := Imp.go wh (by omega))); (try (have i_hsv := Imp.go hsv (by omega))); omega)) (show b < 2 from by first | exact om_f940a4667dd6 hb2 | first | omega | ((try (have i_hsv := Imp.go hsv (by omega))); (try (have i_wh := Imp.go wh (by omega))); (try (have i_coc := Imp.go coc (by omega))); (try (have i_coc := Imp.go coc (by omega))); (try (have i_wh := Imp.go wh (by omega))); (try (have i_hsv := Imp.go hsv (by omega))); omega)) (show p0.toInt = ((Int32.toNatClampNeg p0) : Int) from by first | exact om_dadc9969542e kc0 | first | omega | ((try (have i_hsv := Imp.go hsv (by omega))); (try (have i_wh := Imp.go wh (by omega))); (try (have i_coc := Imp.go coc (by omega))); (try (have i_coc := Imp.go coc (by omega))); (try (have i_wh := Imp.go wh (by omega))); (try (have i_hsv := Imp.go hsv (by omega))); omega)) (show p1.toInt = ((Int32.toNatClampNeg p1) : Int) from by first | exact om_dadc9969542e kc1 | first | omega | ((try (have i_hsv := Imp.go hsv (by omega))); (try (have i_wh := Imp.go wh (by omega))); (try (have i_coc := Imp.go coc (by omega))); (try (have i_coc := Imp.go coc (by omega))); (try (have i_wh := Imp.go wh (by omega))); (try (have i_hsv := Imp.go hsv (by omega))); omega)) coc wh k0l j0l (show (V 43 (5 * b + 2)).toInt = (((gs.2.1 2).length : Nat) : Int) from by first | exact om_08e0c9701055 ln | first | omega | ((try (have i_hsv := Imp.go hsv (by omega))); (try (have i_wh := Imp.go wh (by omega))); (try (have i_coc := Imp.go coc (by omega))); (try (have i_coc := Imp.go coc (by omega))); (try (have i_wh := Imp.go wh (by omega))); (try (have i_hsv := Imp.go hsv (by omega))); omega))) w1141 w1082 w1083 w167 w1084 rfl (xgBook hb2) hdV_yX0_candidates ⟨Nat.le_of_ble_eq_true rfl, Nat.le_of_ble_eq_true rfl⟩ rfl hl.1 rfl (Nat.le_of_ble_eq_true rfl) dX11_candidate_43 ⟨Nat.le_of_ble_eq_true rfl, Nat.le_of_ble_eq_true rfl⟩) hP hD hK hS hA (fun z23 u24 H locs w25 hP hD hK hS => ?_)
          obtain ⟨rgz23, t26⟩ := w25
          have rgz23 : 0 ≤ z23.toInt ∧ z23.toInt ≤ 16777215 := rgz23
          have t26 : FND z23 gs.1 (svc V b (gs.2.1 1).length) (gs.1 (301 + 32 * (Int32.toNatClampNeg p0) + 4 * (Int32.toNatClampNeg p1))) (gs.1 (300 + 32 * (Int32.toNatClampNeg p0) + 4 * (Int32.toNatClampNeg p1))) (gs.1 (302 + 32 * (Int32.toNatClampNeg p0) + 4 * (Int32.toNatClampNeg p1))) (gs.2.1 2).length := t26
          refine lv_istore (lv' := [(4, .int z23), (0, .ref (ad 0)), (1, .int p0), (2, .int p1), (3, .int p2)]) hx hb dX11_candidate_46 hl (by decide) rfl (fun ls hl => ?_)
          have sb0 : SBL z23 (clF gs.1 gv (gs.2.1 2).length (Int32.toNatClampNeg p0) (Int32.toNatClampNeg p1)) := SBL.of (by have h9 := t26; rw [hsv] at h9; exact h9) (by (first | exact om_c51a6401fccc rgz23.1 rgz23.2 | omega)) ln2
          refine lv_iconst (v := 0) hx hb dX11_candidate_48 (by decide) ?_
          refine lv_istore (lv' := [(5, .int 0), (4, .int z23), (0, .ref (ad 0)), (1, .int p0), (2, .int p1), (3, .int p2)]) hx hb dX11_candidate_49 hl (by decide) rfl (fun ls hl => ?_)
          have lp29 : ∀ (fulp29 : Nat) (y27 : Int32) (y28 : Int32) (H : Heap) (locs : List Loc) (ls : Array Slot), 0 ≤ y27.toInt ∧ y27.toInt ≤ 2147483647 → 0 ≤ y28.toInt ∧ y28.toInt ≤ 16777215 → (SBL y28 ((clF gs.1 gv (gs.2.1 2).length (Int32.toNatClampNeg p0) (Int32.toNatClampNeg p1)).drop y27.toInt.toNat)) → y27.toInt ≤ p2.toInt → p2.toInt - y27.toInt < (fulp29 : Int) → va_P D vwCl (xw ad kk V L Z) H → va_D A (xw ad kk V L Z) → va_S A s.heap H locs → lv_has ls 6 [(5, .int y27), (4, .int y28), (0, .ref (ad 0)), (1, .int p0), (2, .int p1), (3, .int p2)] → W p l e r_x_h_candidate10 s m ([.ref (ad 0), .int p0, .int p1, .int p2] : List Value).toArray below meth c H locs 0 0 (MQ below (q_x_h_candidate10 D ks ad kk V L Z p0 p1 p2 b gs gv A) ([.ref (ad 0), .int p0, .int p1, .int p2] : List Value).toArray s 0 0 A) (F0 m 51 ls []) := by
            intro fulp29
            induction fulp29 with
            | zero =>
              intro y27 y28 H locs ls klp29_0 klp29_1 xlp29_0 xlp29_1 hn  hP hD hS hl
              exfalso; (first | exact om_4634b1278845 xlp29_1 hn | omega)
            | succ fulp29 ihlp29 =>
              intro y27 y28 H locs ls klp29_0 klp29_1 xlp29_0 xlp29_1 hn  hP hD hS hl
              refine lv_iload hx hb dX11_candidate_51 (lv_at hl 0 rfl) ?_
              refine lv_iload_n hx hb dX11_candidate_53 rfl (lv_at hl 5 rfl) ?_
              refine lv_icmp_ge (tgt := 77) hx hb dX11_candidate_54 (by decide) (fun c30 => ?_) (fun c30 => ?_)
              · skip
                have f31 : p2.toInt ≤ y27.toInt := b_le rfl rfl c30
                refine lv_iload hx hb dX11_candidate_77 (lv_at hl 1 rfl) ?_
                refine lv_if_ne (tgt := 86) hx hb dX11_candidate_79 (by decide) (fun c32 => ?_) (fun c32 => ?_)
                · skip
                  have f33 : y28.toInt ≠ 0 := b_neq rfl (by decide) c32
                  obtain ⟨a9, t9, et9⟩ := SBL.cons xlp29_0 (by (first | exact om_dc4480632432 klp29_1.1 f33 | omega))
                  have dh9 := drop_hd et9
                  have sb9 := xlp29_0
                  rw [et9] at sb9
                  refine lv_iload hx hb dX11_candidate_86 (lv_at hl 1 rfl) ?_
                  refine gE_int (g_runS (As := [.int y28]) (rest := []) (wc := []) (tc := []) hx hb hml hown hg gw_self hP hD hK hS hA hnw hgk [] [] (by decide) rfl rfl (x_nTZ10 l D ks H.size y28 (a9) (by first | exact om_64fe641f814d klp29_1.1 klp29_1.2 f33 | first | omega | ((try (have i_hsv := Imp.go hsv (by omega))); (try (have i_wh := Imp.go wh (by omega))); (try (have i_coc := Imp.go coc (by omega))); (try (have i_coc := Imp.go coc (by omega))); (try (have i_wh := Imp.go wh (by omega))); (try (have i_hsv := Imp.go hsv (by omega))); omega)) (SBL.lob sb9)) w1142 w1143 w175 w1144 hdS_yJ6_numberOfTrailingZeros_0f7a4 ⟨Nat.le_of_ble_eq_true rfl, Nat.le_of_ble_eq_true rfl⟩ rfl hl.1 rfl (Nat.le_of_ble_eq_true rfl) dX11_candidate_88 ⟨Nat.le_of_ble_eq_true rfl, Nat.le_of_ble_eq_true rfl⟩) hP hD hK hS hA (fun z34 u35 H locs w36 hP hD hK hS => ?_)
                  obtain ⟨rgz34, t37⟩ := w36
                  have rgz34 : 0 ≤ z34.toInt ∧ z34.toInt ≤ 32 := rgz34
                  have t37 : z34.toInt = ((a9 : Nat) : Int) := t37
                  exact W.iret (v := z34) hx hb hr (fun t ht hW => ⟨⟨z34, (), rfl, (by rw [cnA_y (a := (Int32.toNatClampNeg p0)) (b := (Int32.toNatClampNeg p1)) (k := (Int32.toNatClampNeg p2)) (by omega) (by omega) (by omega) k0l j0l, nth_y (a := a9) (by have h9 := dh9.1; rw [show y27.toInt.toNat = (Int32.toNatClampNeg p2) from by omega] at h9; exact h9)]; omega), by rw [ht]; exact hP, va_K.moved hW.alike hK, hD⟩, hS.F ht⟩) hS.2.2 dX11_candidate_91
                · skip
                  have f38 : y28.toInt = 0 := b_eq rfl (by decide) c32
                  refine lv_iconst (v := (-1)) hx hb dX11_candidate_82 (by decide) ?_
                  refine lv_goto (tgt := 91) hx hb dX11_candidate_83 (by decide) ?_
                  exact W.iret (v := (-1)) hx hb hr (fun t ht hW => ⟨⟨(-1), (), rfl, (by rw [cnA_y (a := (Int32.toNatClampNeg p0)) (b := (Int32.toNatClampNeg p1)) (k := (Int32.toNatClampNeg p2)) (by omega) (by omega) (by omega) k0l j0l]; have h9 := SBL.nil xlp29_0 (by omega); have h8 := List.drop_eq_nil_iff.mp h9; rw [nth_n (show (clF gs.1 gv (gs.2.1 2).length (Int32.toNatClampNeg p0) (Int32.toNatClampNeg p1)).length ≤ (Int32.toNatClampNeg p2) from by omega)]; decide), by rw [ht]; exact hP, va_K.moved hW.alike hK, hD⟩, hS.F ht⟩) hS.2.2 dX11_candidate_91
              · skip
                have f39 : y27.toInt < p2.toInt := b_nle rfl rfl c30
                refine lv_iload hx hb dX11_candidate_57 (lv_at hl 1 rfl) ?_
                refine lv_if_eq (tgt := 77) hx hb dX11_candidate_59 (by decide) (fun c40 => ?_) (fun c40 => ?_)
                · skip
                  have f41 : y28.toInt = 0 := b_eq rfl (by decide) c40
                  refine lv_iload hx hb dX11_candidate_77 (lv_at hl 1 rfl) ?_
                  refine lv_if_ne (tgt := 86) hx hb dX11_candidate_79 (by decide) (fun c42 => ?_) (fun c42 => ?_)
                  · skip
                    have f43 : y28.toInt ≠ 0 := b_neq rfl (by decide) c42
                    exfalso; first | exact om_fb320d7600b7 klp29_1.1 f41 f43 | first | omega | ((try (have i_hsv := Imp.go hsv (by omega))); (try (have i_wh := Imp.go wh (by omega))); (try (have i_coc := Imp.go coc (by omega))); (try (have i_coc := Imp.go coc (by omega))); (try (have i_wh := Imp.go wh (by omega))); (try (have i_hsv := Imp.go hsv (by omega))); omega)
                  · skip
                    have f44 : y28.toInt = 0 := b_eq rfl (by decide) c42
                    refine lv_iconst (v := (-1)) hx hb dX11_candidate_82 (by decide) ?_
                    refine lv_goto (tgt := 91) hx hb dX11_candidate_83 (by decide) ?_
                    exact W.iret (v := (-1)) hx hb hr (fun t ht hW => ⟨⟨(-1), (), rfl, (by rw [cnA_y (a := (Int32.toNatClampNeg p0)) (b := (Int32.toNatClampNeg p1)) (k := (Int32.toNatClampNeg p2)) (by omega) (by omega) (by omega) k0l j0l]; have h9 := SBL.nil xlp29_0 (by omega); have h8 := List.drop_eq_nil_iff.mp h9; rw [nth_n (show (clF gs.1 gv (gs.2.1 2).length (Int32.toNatClampNeg p0) (Int32.toNatClampNeg p1)).length ≤ (Int32.toNatClampNeg p2) from by omega)]; decide), by rw [ht]; exact hP, va_K.moved hW.alike hK, hD⟩, hS.F ht⟩) hS.2.2 dX11_candidate_91
                · skip
                  have f45 : y28.toInt ≠ 0 := b_neq rfl (by decide) c40
                  obtain ⟨a9, t9, et9⟩ := SBL.cons xlp29_0 (by (first | exact om_dc4480632432 klp29_1.1 f45 | omega))
                  have dh9 := drop_hd et9
                  refine lv_iload hx hb dX11_candidate_62 (lv_at hl 1 rfl) ?_
                  refine lv_iload hx hb dX11_candidate_64 (lv_at hl 1 rfl) ?_
                  refine lv_iconst (v := 1) hx hb dX11_candidate_66 (by decide) ?_
                  refine lv_isub hx hb dX11_candidate_67 ?_
                  refine lv_topi (fun z46 ez46 => ?_)
                  have hz46 : z46.toInt = y28.toInt - 1 := i_sub ez46 rfl (by decide) (by (first | exact om_9f80946fedea klp29_1.1 klp29_1.2 f45 | omega))
                  refine lv_iand hx hb dX11_candidate_68 ?_
                  refine lv_topi (fun z47 ez47 => ?_)
                  have sc9 := SBL.clr (by have h9 := xlp29_0; rw [et9] at h9; exact h9) ez46 ez47
                  have sr9 := sc9.1
                  refine lv_istore (lv' := [(4, .int z47), (5, .int y27), (0, .ref (ad 0)), (1, .int p0), (2, .int p1), (3, .int p2)]) hx hb dX11_candidate_69 hl (by decide) rfl (fun ls hl => ?_)
                  obtain ⟨z48, ez48⟩ : ∃ y : Int32, y = y27 + 1 := ⟨_, rfl⟩
                  have hz48 : z48.toInt = y27.toInt + 1 := i_add ez48 rfl (by decide) (by (first | exact om_88bd6a12a5d9 hf2.2 klp29_0.1 f39 | omega))
                  refine lv_iinc (v := z48) (lv' := [(5, .int z48), (4, .int z47), (0, .ref (ad 0)), (1, .int p0), (2, .int p1), (3, .int p2)]) hx hb dX11_candidate_71 hl (k := 1) rfl (by rw [ez48]; rfl) (by decide) rfl (fun ls hl => ?_)
                  refine lv_goto (tgt := 51) hx hb dX11_candidate_74 (by decide) ?_
                  exact ihlp29 z48 z47 H locs ls (by first | exact om_3a58d8ac03eb hf2.2 klp29_0.1 f39 hz48 | first | omega | ((try (have i_hsv := Imp.go hsv (by omega))); (try (have i_wh := Imp.go wh (by omega))); (try (have i_coc := Imp.go coc (by omega))); (try (have i_coc := Imp.go coc (by omega))); (try (have i_wh := Imp.go wh (by omega))); (try (have i_hsv := Imp.go hsv (by omega))); omega)) (by first | omega | ((try (have i_hsv := Imp.go hsv (by omega))); (try (have i_wh := Imp.go wh (by omega))); (try (have i_coc := Imp.go coc (by omega))); (try (have i_coc := Imp.go coc (by omega))); (try (have i_wh := Imp.go wh (by omega))); (try (have i_hsv := Imp.go hsv (by omega))); omega)) (by rw [show z48.toInt.toNat = y27.toInt.toNat + 1 from by omega, dh9.2]; exact sc9) (show z48.toInt ≤ p2.toInt from by first | exact om_7fe9249fc074 f39 hz48 | first | omega | ((try (have i_hsv := Imp.go hsv (by omega))); (try (have i_wh := Imp.go wh (by omega))); (try (have i_coc := Imp.go coc (by omega))); (try (have i_coc := Imp.go coc (by omega))); (try (have i_wh := Imp.go wh (by omega))); (try (have i_hsv := Imp.go hsv (by omega))); omega)) (by first | exact om_9e7d2b874257 hn hz48 | first | omega | ((try (have i_hsv := Imp.go hsv (by omega))); (try (have i_wh := Imp.go wh (by omega))); (try (have i_coc := Imp.go coc (by omega))); (try (have i_coc := Imp.go coc (by omega))); (try (have i_wh := Imp.go wh (by omega))); (try (have i_hsv := Imp.go hsv (by omega))); omega)) hP hD hS (lv_sub hl [0, 1, 2, 3, 4, 5] rfl)
          have r49 : Int32.toInt 0 = 0 := by decide
          exact lp29 ((p2.toInt - (Int32.toInt 0) + 1 : Int).toNat) 0 z23 H locs ls (by decide) (by first | exact om_c51a6401fccc rgz23.1 rgz23.2 | first | omega | ((try (have i_hsv := Imp.go hsv (by omega))); (try (have i_wh := Imp.go wh (by omega))); (try (have i_coc := Imp.go coc (by omega))); (try (have i_coc := Imp.go coc (by omega))); (try (have i_wh := Imp.go wh (by omega))); (try (have i_hsv := Imp.go hsv (by omega))); omega)) (by rw [show (Int32.toInt 0).toNat = 0 from by decide, List.drop_zero]; exact sb0) (show (Int32.toInt 0) ≤ p2.toInt from by first | exact om_6f9bb8cf3bec f22 r49 | first | omega | ((try (have i_hsv := Imp.go hsv (by omega))); (try (have i_wh := Imp.go wh (by omega))); (try (have i_coc := Imp.go coc (by omega))); (try (have i_coc := Imp.go coc (by omega))); (try (have i_wh := Imp.go wh (by omega))); (try (have i_hsv := Imp.go hsv (by omega))); omega)) (by first | exact om_7441a7786481 | first | omega | ((try (have i_hsv := Imp.go hsv (by omega))); (try (have i_wh := Imp.go wh (by omega))); (try (have i_coc := Imp.go coc (by omega))); (try (have i_coc := Imp.go coc (by omega))); (try (have i_wh := Imp.go wh (by omega))); (try (have i_hsv := Imp.go hsv (by omega))); omega)) hP hD hS (lv_sub hl [0, 1, 2, 3, 4, 5] rfl)
        · skip
          have f50 : p2.toInt < 0 := b_nle (by decide) rfl c21
          refine lv_iconst (v := (-1)) hx hb dX11_candidate_35 (by decide) ?_
          exact W.iret (v := (-1)) hx hb hr (fun t ht hW => ⟨⟨(-1), (), rfl, (by rw [cnA_n (fun h9 => by have h1 := h9.1; have h2 := h9.2.1; have h3 := h9.2.2.1; have h4 := h9.2.2.2.1; have h5 := h9.2.2.2.2; rw [fe9] at h4; omega)]; decide), by rw [ht]; exact hP, va_K.moved hW.alike hK, hD⟩, hS.F ht⟩) hS.2.2 dX11_candidate_36
abbrev r_s_candidate10 : Room := { frames := 3, cells := 0, slots := 0, locals := 69 }
abbrev q_s_candidate10 (D : va_G) (ks : KS) (ad : Nat → Nat) (kk : Nat → ClassId) (V : Vf) (L : Lf) (p0 : Int32) (p1 : Int32) (p2 : Int32) (bq : Nat) (gs : St) (gv : Nat → Int) (A : Nat → Prop) : Array Value → State → Outcome → State → Prop := va_Qi (fun (r : Int32) (u : Vf × Lf) => rgd bM u.1 ∧ agr [(0, 0)] [80] V u.1 ∧ u.2 = L ∧ (r.toInt = cnA gs.1 gv (gs.2.1 2).length p0.toInt p1.toInt p2.toInt)) (fun u t => gq D A (mw ad kk ks.1 u.1 u.2) (mty kk) t) A
set_option maxHeartbeats 4000000 in
set_option maxRecDepth 100000 in
theorem s_candidate10 (l : Launch) (D : va_G) (ks : KS) (sz : Nat) (ad : Nat → Nat) (kk : Nat → ClassId) (V : Vf) (L : Lf) (p0 : Int32) (p1 : Int32) (p2 : Int32) (bq : Nat) (gs : St) (gv : Nat → Int) (hMV : rgd bM V) (zq1 : (bq : Int) = (V 0 11).toInt) (t4 : T24 gs) (com : COM V bq gs) (wh : WHs gs) (ln : (V 19 bq).toInt = (((gs.2.1 2).length : Nat) : Int)) (ln2 : (gs.2.1 2).length ≤ 24) (hsv : svm V bq (gs.2.1 1).length = gv)  : Met l yX12_candidate (Cond.code yX12_candidate cX12_candidate 4 (some .int) :: GW) r_s_candidate10 (va_Pc [.ref (ad 0), .int p0, .int p1, .int p2] (gp D ks (mw ad kk ks.1 V L) (mty kk) sz)) (q_s_candidate10 D ks ad kk V L p0 p1 p2 bq gs gv (va_A (mw ad kk ks.1 V L) sz)) 0 0 (va_A (mw ad kk ks.1 V L) sz) := by
  refine g_met (q_s_candidate10 D ks ad kk V L p0 p1 p2 bq gs gv) (by decide) (Nat.le_of_ble_eq_true rfl) ?_
  intro p e s m below meth c A ls H locs hx hb hr hml hown hg hlocks hin hnw hgk hP hK hD hS hA hl
  have hown : s.vm.findClass RX12 = some m.cls := hown
  have hl : lv_has ls 4 [(0, .ref (ad 0)), (1, .int p0), (2, .int p1), (3, .int p2)] := hl
  have hP : va_P D vwCl (mw ad kk ks.1 V L) H := hP
  have hD : va_D A (mw ad kk ks.1 V L) := hD
  have hK : va_K D vwCl (mty kk) s := hK
  have agV : agr [(0, 0)] [80] V V := agr.rf
  have r1 : 0 ≤ ((V 0 11)).toInt ∧ ((V 0 11)).toInt ≤ 1 := hMV 0 11
  have r2 : 0 ≤ ((V 19 bq)).toInt ∧ ((V 19 bq)).toInt ≤ 24 := hMV 19 bq
  have kb9 : Int32.toNatClampNeg (V 0 11) = bq := by have h9 := i_clamp (x := V 0 11) rfl (by (first | exact om_eafa9039069c r1.1 | omega)); (first | exact om_7d9cc8d6a75e zq1 h9 | omega)
  have q19 : (V 19 (Int32.toNatClampNeg (V 0 11))).toInt = (V 19 bq).toInt := by rw [kb9]
  refine lv_aload_n hx hb dX12_candidate_0 rfl (lv_at hl 0 rfl) ?_
  refine lv_iconst (v := 0) hx hb dX12_candidate_1 (by decide) ?_
  refine va_put (D := D) (ci := 12) (v := .int 0) (ty := tyX12 0) (C := RX12) (T := TX12) (N := 100) hx hb hg inX12 tyX12 tyX12_ok nmX12 hown hK hP hD hS 0 rfl rfl 0 (by decide) (hg _ w1706) (fun _ h9 => h9) rfl (tyX12_ok 0 (by decide)) rfl rfl (Nat.le_of_ble_eq_true rfl) dX12_candidate_2 (fun H locs hP hD hS => ?_)
  obtain ⟨V3, hV3⟩ : ∃ z, z = up2 V 0 0 0 := ⟨_, rfl⟩
  have hP : va_P D vwCl (mw ad kk ks.1 V3 L) H := by rw [hV3]; exact hP
  have hD : va_D A (mw ad kk ks.1 V3 L) := by rw [hV3]; exact hD
  have hMV3 : rgd bM V3 := hMV.put hV3 (i_full _)
  have agV3 : agr [(0, 0)] [80] V V3 := agV.up hV3 rfl
  refine lv_iload_n hx hb dX12_candidate_5 rfl (lv_at hl 1 rfl) ?_
  refine lv_if_lt (tgt := 48) hx hb dX12_candidate_6 (by decide) (fun c4 => ?_) (fun c4 => ?_)
  · skip
    have f5 : p0.toInt < 0 := b_lt rfl (by decide) c4
    refine lv_iconst (v := (-1)) hx hb dX12_candidate_48 (by decide) ?_
    exact W.iret (v := (-1)) hx hb hr (fun t ht hW => ⟨⟨(-1), (V3, L), rfl, ⟨hMV3, agV3, rfl, (by rw [cnA_n (fun h9 => by have h1 := h9.1; have h2 := h9.2.1; have h3 := h9.2.2.1; have h4 := h9.2.2.2.1; have h5 := h9.2.2.2.2; omega)]; decide)⟩, by rw [ht]; exact hP, va_K.moved hW.alike hK, hD⟩, hS.F ht⟩) hS.2.2 dX12_candidate_49
  · skip
    have f6 : 0 ≤ p0.toInt := b_nlt rfl (by decide) c4
    refine lv_iload_n hx hb dX12_candidate_9 rfl (lv_at hl 1 rfl) ?_
    refine lv_aload_n hx hb dX12_candidate_10 rfl (lv_at hl 0 rfl) ?_
    refine va_get (D := D) (ci := 12) (v := .ref (ad 19)) (C := RX12) (T := TX12) (N := 100) hx hb hg inX12 hown hK hP 0 rfl rfl 19 (by decide) (hg _ w1725) (fun _ h9 => h9) rfl dX12_candidate_11 ?_
    refine lv_aload_n hx hb dX12_candidate_14 rfl (lv_at hl 0 rfl) ?_
    refine va_get (D := D) (ci := 12) (v := .int (V3 0 11)) (C := RX12) (T := TX12) (N := 100) hx hb hg inX12 hown hK hP 0 rfl rfl 11 (by decide) (hg _ w1717) (fun _ h9 => h9) rfl dX12_candidate_15 ?_
    refine g_top (v := (V 0 11)) (up2_k hV3 (by decide)) ?_
    refine va_iald (D := D) (i := (V 0 11)) hx hb hK hP 12 11 rfl rfl (i_in (a := ((V 0 11)).toInt) rfl (by (first | exact om_8367a84723c7 r1.1 r1.2 | omega))) dX12_candidate_18 ?_
    refine g_top (v := (V 19 (Int32.toNatClampNeg (V 0 11)))) (up2_o hV3 (by decide)) ?_
    have r7 : 0 ≤ ((V 19 (Int32.toNatClampNeg (V 0 11)))).toInt ∧ ((V 19 (Int32.toNatClampNeg (V 0 11)))).toInt ≤ 24 := hMV 19 (Int32.toNatClampNeg (V 0 11))
    refine lv_icmp_ge (tgt := 48) hx hb dX12_candidate_19 (by decide) (fun c8 => ?_) (fun c8 => ?_)
    · skip
      have f9 : ((V 19 (Int32.toNatClampNeg (V 0 11)))).toInt ≤ p0.toInt := b_le rfl rfl c8
      refine lv_iconst (v := (-1)) hx hb dX12_candidate_48 (by decide) ?_
      exact W.iret (v := (-1)) hx hb hr (fun t ht hW => ⟨⟨(-1), (V3, L), rfl, ⟨hMV3, agV3, rfl, (by rw [cnA_n (fun h9 => by have h1 := h9.1; have h2 := h9.2.1; have h3 := h9.2.2.1; have h4 := h9.2.2.2.1; have h5 := h9.2.2.2.2; omega)]; decide)⟩, by rw [ht]; exact hP, va_K.moved hW.alike hK, hD⟩, hS.F ht⟩) hS.2.2 dX12_candidate_49
    · skip
      have f10 : p0.toInt < ((V 19 (Int32.toNatClampNeg (V 0 11)))).toInt := b_nle rfl rfl c8
      have kc0 := i_clamp (x := p0) rfl (by (first | exact om_eafa9039069c f6 | omega))
      have k0l : (Int32.toNatClampNeg p0) < (gs.2.1 2).length := by (first | exact om_2278541b5b9f ln q19 f10 kc0 | omega)
      have g08 := (t4 _ k0l).2.1
      have fe9 : p0.toInt.toNat = (Int32.toNatClampNeg p0) := rfl
      refine lv_iload_n hx hb dX12_candidate_22 rfl (lv_at hl 2 rfl) ?_
      refine lv_if_lt (tgt := 48) hx hb dX12_candidate_23 (by decide) (fun c11 => ?_) (fun c11 => ?_)
      · skip
        have f12 : p1.toInt < 0 := b_lt rfl (by decide) c11
        refine lv_iconst (v := (-1)) hx hb dX12_candidate_48 (by decide) ?_
        exact W.iret (v := (-1)) hx hb hr (fun t ht hW => ⟨⟨(-1), (V3, L), rfl, ⟨hMV3, agV3, rfl, (by rw [cnA_n (fun h9 => by have h1 := h9.1; have h2 := h9.2.1; have h3 := h9.2.2.1; have h4 := h9.2.2.2.1; have h5 := h9.2.2.2.2; rw [fe9] at h4; omega)]; decide)⟩, by rw [ht]; exact hP, va_K.moved hW.alike hK, hD⟩, hS.F ht⟩) hS.2.2 dX12_candidate_49
      · skip
        have f13 : 0 ≤ p1.toInt := b_nlt rfl (by decide) c11
        refine lv_iload_n hx hb dX12_candidate_26 rfl (lv_at hl 2 rfl) ?_
        refine lv_aload_n hx hb dX12_candidate_27 rfl (lv_at hl 0 rfl) ?_
        refine va_get (D := D) (ci := 12) (v := .ref (ad 27)) (C := RX12) (T := TX12) (N := 100) hx hb hg inX12 hown hK hP 0 rfl rfl 27 (by decide) (hg _ w1733) (fun _ h9 => h9) rfl dX12_candidate_28 ?_
        refine lv_bipush (v := 24) hx hb dX12_candidate_31 (by decide) ?_
        refine lv_aload_n hx hb dX12_candidate_33 rfl (lv_at hl 0 rfl) ?_
        refine va_get (D := D) (ci := 12) (v := .int (V3 0 11)) (C := RX12) (T := TX12) (N := 100) hx hb hg inX12 hown hK hP 0 rfl rfl 11 (by decide) (hg _ w1717) (fun _ h9 => h9) rfl dX12_candidate_34 ?_
        refine g_top (v := (V 0 11)) (up2_k hV3 (by decide)) ?_
        refine lv_imul hx hb dX12_candidate_37 ?_
        refine lv_topi (fun z14 ez14 => ?_)
        have hz14 : z14.toInt = 24 * ((V 0 11)).toInt := i_mul ez14 (by decide) rfl (by (first | exact om_3f8aba7b6ce1 r1.1 r1.2 | omega))
        refine lv_iload_n hx hb dX12_candidate_38 rfl (lv_at hl 1 rfl) ?_
        refine lv_iadd hx hb dX12_candidate_39 ?_
        refine lv_topi (fun z15 ez15 => ?_)
        have hz15 : z15.toInt = z14.toInt + p0.toInt := i_add ez15 rfl rfl (by (first | exact om_5220ee48b31d ln ln2 r1.1 r1.2 q19 f6 f10 hz14 | omega))
        have n27 : (V 27 (Int32.toNatClampNeg z15)).toInt = ((gs.1 (66 + 8 * (Int32.toNatClampNeg p0)) : Nat) : Int) := by rw [show Int32.toNatClampNeg z15 = 24 * bq + (Int32.toNatClampNeg p0) from by have h9 := i_clamp (x := z15) rfl (by (first | exact om_19aed6992cbe r1.1 f6 hz14 hz15 | omega)); omega]; exact (com _ k0l).2.1
        refine va_iald (D := D) (i := z15) hx hb hK hP 20 19 rfl rfl (i_in (a := z15.toInt) rfl (by (first | exact om_2312635f48bf ln ln2 r1.1 r1.2 q19 f6 f10 hz14 hz15 | omega))) dX12_candidate_40 ?_
        refine g_top (v := (V 27 (Int32.toNatClampNeg z15))) (up2_o hV3 (by decide)) ?_
        have r16 : 0 ≤ ((V 27 (Int32.toNatClampNeg z15))).toInt ∧ ((V 27 (Int32.toNatClampNeg z15))).toInt ≤ 8 := hMV 27 (Int32.toNatClampNeg z15)
        refine lv_icmp_ge (tgt := 48) hx hb dX12_candidate_41 (by decide) (fun c17 => ?_) (fun c17 => ?_)
        · skip
          have f18 : ((V 27 (Int32.toNatClampNeg z15))).toInt ≤ p1.toInt := b_le rfl rfl c17
          refine lv_iconst (v := (-1)) hx hb dX12_candidate_48 (by decide) ?_
          exact W.iret (v := (-1)) hx hb hr (fun t ht hW => ⟨⟨(-1), (V3, L), rfl, ⟨hMV3, agV3, rfl, (by rw [cnA_n (fun h9 => by have h1 := h9.1; have h2 := h9.2.1; have h3 := h9.2.2.1; have h4 := h9.2.2.2.1; have h5 := h9.2.2.2.2; rw [fe9] at h4; omega)]; decide)⟩, by rw [ht]; exact hP, va_K.moved hW.alike hK, hD⟩, hS.F ht⟩) hS.2.2 dX12_candidate_49
        · skip
          have f19 : p1.toInt < ((V 27 (Int32.toNatClampNeg z15))).toInt := b_nle rfl rfl c17
          refine lv_iload_n hx hb dX12_candidate_44 rfl (lv_at hl 3 rfl) ?_
          refine lv_if_ge (tgt := 50) hx hb dX12_candidate_45 (by decide) (fun c20 => ?_) (fun c20 => ?_)
          · skip
            have f21 : 0 ≤ p2.toInt := b_le (by decide) rfl c20
            have kc1 := i_clamp (x := p1) rfl (by (first | exact om_eafa9039069c f13 | omega))
            have kc2 := i_clamp (x := p2) rfl (by (first | exact om_eafa9039069c f21 | omega))
            have j0l : (Int32.toNatClampNeg p1) < gs.1 (66 + 8 * (Int32.toNatClampNeg p0)) := by omega
            have t24 := (t4 _ k0l).2.2 (Int32.toNatClampNeg p1) j0l
            have gcl := k0l
            have gjl := j0l
            refine lv_iload_n hx hb dX12_candidate_50 rfl (lv_at hl 3 rfl) ?_
            refine lv_aload_n hx hb dX12_candidate_51 rfl (lv_at hl 0 rfl) ?_
            refine lv_bipush (v := 8) hx hb dX12_candidate_52 (by decide) ?_
            refine lv_bipush (v := 24) hx hb dX12_candidate_54 (by decide) ?_
            refine lv_aload_n hx hb dX12_candidate_56 rfl (lv_at hl 0 rfl) ?_
            refine va_get (D := D) (ci := 12) (v := .int (V3 0 11)) (C := RX12) (T := TX12) (N := 100) hx hb hg inX12 hown hK hP 0 rfl rfl 11 (by decide) (hg _ w1717) (fun _ h9 => h9) rfl dX12_candidate_57 ?_
            refine g_top (v := (V 0 11)) (up2_k hV3 (by decide)) ?_
            refine lv_imul hx hb dX12_candidate_60 ?_
            refine lv_topi (fun z22 ez22 => ?_)
            have hz22 : z22.toInt = 24 * ((V 0 11)).toInt := i_mul ez22 (by decide) rfl (by (first | exact om_3f8aba7b6ce1 r1.1 r1.2 | omega))
            refine lv_iload_n hx hb dX12_candidate_61 rfl (lv_at hl 1 rfl) ?_
            refine lv_iadd hx hb dX12_candidate_62 ?_
            refine lv_topi (fun z23 ez23 => ?_)
            have hz23 : z23.toInt = z22.toInt + p0.toInt := i_add ez23 rfl rfl (by (first | exact om_5220ee48b31d ln ln2 r1.1 r1.2 q19 f6 f10 hz22 | omega))
            refine lv_imul hx hb dX12_candidate_63 ?_
            refine lv_topi (fun z24 ez24 => ?_)
            have hz24 : z24.toInt = 8 * z23.toInt := i_mul ez24 (by decide) rfl (by (first | exact om_158d44350c37 ln ln2 r1.1 r1.2 q19 f6 f10 hz22 hz23 | omega))
            refine lv_iload_n hx hb dX12_candidate_64 rfl (lv_at hl 2 rfl) ?_
            refine lv_iadd hx hb dX12_candidate_65 ?_
            refine lv_topi (fun z25 ez25 => ?_)
            have hz25 : z25.toInt = z24.toInt + p1.toInt := i_add ez25 rfl rfl (by (first | exact om_162ff93d9492 ln ln2 r1.1 r1.2 q19 f6 f10 f13 r16.2 f19 hz22 hz23 hz24 | omega))
            have pq26 : (V3 0 11).toInt = ((V 0 11)).toInt := congrArg Int32.toInt (up2_k hV3 (by decide))
            have pq27 : (V3 19 bq).toInt = ((V 19 bq)).toInt := congrArg Int32.toInt (up2_o hV3 (by decide))
            refine gA_int (gA_runV (As := [.int z25]) (rest := [.int p2]) (ci := 12) (q0 := 0) hx hb hml hown hg hP hD hK hS hA hnw hgk (s_candidatesOf6 l D ks H.size ad kk V3 L z25 (bq) (gs) ((Int32.toNatClampNeg p0)) ((Int32.toNatClampNeg p1)) hMV3 (by (first | exact om_3de30c5059a0 ln ln2 r1.1 r1.2 q19 f6 f10 f13 r16.2 f19 hz22 hz23 hz24 hz25 | omega)) (show ((bq) : Int) = (V3 0 11).toInt from by (first | exact om_9495d81bd5ca zq1 pq26 | omega)) (show z25.toInt = ((8 * (24 * (bq) + ((Int32.toNatClampNeg p0))) + ((Int32.toNatClampNeg p1)) : Nat) : Int) from by (first | exact om_7018c714c2d5 zq1 kc0 kc1 hz22 hz23 hz24 hz25 | omega)) gcl gjl t24 (COM.ag com (by rw [(up2_fo hV3 (by decide) : V3 21 = V 21)] : V3 21 = V 21) (by rw [(up2_fo hV3 (by decide) : V3 22 = V 22)] : V3 22 = V 22) (by rw [(up2_fo hV3 (by decide) : V3 23 = V 23)] : V3 23 = V 23) (by rw [(up2_fo hV3 (by decide) : V3 24 = V 24)] : V3 24 = V 24) (by rw [(up2_fo hV3 (by decide) : V3 25 = V 25)] : V3 25 = V 25) (by rw [(up2_fo hV3 (by decide) : V3 26 = V 26)] : V3 26 = V 26) (by rw [(up2_fo hV3 (by decide) : V3 27 = V 27)] : V3 27 = V 27) (by rw [(up2_fo hV3 (by decide) : V3 28 = V 28)] : V3 28 = V 28) (by rw [(up2_fo hV3 (by decide) : V3 29 = V 29)] : V3 29 = V 29) (by rw [(up2_fo hV3 (by decide) : V3 30 = V 30)] : V3 30 = V 30) (by rw [(up2_fo hV3 (by decide) : V3 31 = V 31)] : V3 31 = V 31)) (show (V3 19 (bq)).toInt = ((((gs).2.1 2).length : Nat) : Int) from by (first | exact om_adf531c77a0d ln pq27 | omega)) wh) w2172 w2174 w119 w172 w2175 rfl rfl hdV_yX12_candidatesOf ⟨Nat.le_of_ble_eq_true rfl, Nat.le_of_ble_eq_true rfl⟩ rfl hl.1 rfl (Nat.le_of_ble_eq_true rfl) dX12_candidate_66 ⟨Nat.le_of_ble_eq_true rfl, Nat.le_of_ble_eq_true rfl⟩) hP hD hK hS hA (fun z28 u29 H locs w30 hP hD hK hS => ?_)
            obtain ⟨V32, L33⟩ := u29
            obtain ⟨hMV32, ajV32, axL33, rgz28, t31⟩ := w30
            have axL33 : L = L33 := Eq.symm axL33
            subst axL33
            have hP : va_P D vwCl (mw ad kk ks.1 V32 L) H := hP
            have hD : va_D A (mw ad kk ks.1 V32 L) := hD
            have hMV32 : rgd bM V32 := hMV32
            have ajV32 : agr [] [80] V3 V32 := ajV32
            have agV32 : agr [(0, 0)] [80] V V32 := agV3.tr ajV32 (by decide) (by decide)
            have rgz28 : 0 ≤ z28.toInt ∧ z28.toInt ≤ 24 := rgz28
            have t31 : CLV V32 80 (CLP (gs).1 (svm V3 (bq) ((gs).2.1 1).length) ((gs).1 (301 + 32 * ((Int32.toNatClampNeg p0)) + 4 * ((Int32.toNatClampNeg p1)))) ((gs).1 (300 + 32 * ((Int32.toNatClampNeg p0)) + 4 * ((Int32.toNatClampNeg p1)))) ((gs).1 (302 + 32 * ((Int32.toNatClampNeg p0)) + 4 * ((Int32.toNatClampNeg p1)))) ((gs).2.1 2).length ((gs).2.1 2).length) z28.toInt := t31
            have cv9 : CLV V32 80 (clF gs.1 gv (gs.2.1 2).length (Int32.toNatClampNeg p0) (Int32.toNatClampNeg p1)) z28.toInt := by have h9 := t31; rw [(svm_fo hsv (by rw [(up2_fo hV3 (by decide) : V3 18 = V 18)] : V3 18 = V 18))] at h9; exact h9
            have ll9 := cv9.1
            refine lv_icmp_ge (tgt := 81) hx hb dX12_candidate_69 (by decide) (fun c34 => ?_) (fun c34 => ?_)
            · skip
              have f35 : z28.toInt ≤ p2.toInt := b_le rfl rfl c34
              refine lv_iconst (v := (-1)) hx hb dX12_candidate_81 (by decide) ?_
              exact W.iret (v := (-1)) hx hb hr (fun t ht hW => ⟨⟨(-1), (V32, L), rfl, ⟨hMV32, agV32, rfl, (by rw [cnA_y (a := (Int32.toNatClampNeg p0)) (b := (Int32.toNatClampNeg p1)) (k := (Int32.toNatClampNeg p2)) (by omega) (by omega) (by omega) k0l j0l, nth_n (show (clF gs.1 gv (gs.2.1 2).length (Int32.toNatClampNeg p0) (Int32.toNatClampNeg p1)).length ≤ (Int32.toNatClampNeg p2) from by omega)]; decide)⟩, by rw [ht]; exact hP, va_K.moved hW.alike hK, hD⟩, hS.F ht⟩) hS.2.2 dX12_candidate_82
            · skip
              have f36 : p2.toInt < z28.toInt := b_nle rfl rfl c34
              refine lv_aload_n hx hb dX12_candidate_72 rfl (lv_at hl 0 rfl) ?_
              refine va_get (D := D) (ci := 12) (v := .ref (ad 80)) (C := RX12) (T := TX12) (N := 100) hx hb hg inX12 hown hK hP 0 rfl rfl 80 (by decide) (hg _ w1786) (fun _ h9 => h9) rfl dX12_candidate_73 ?_
              refine lv_iload_n hx hb dX12_candidate_76 rfl (lv_at hl 3 rfl) ?_
              refine va_iald (D := D) (i := p2) hx hb hK hP 57 56 rfl rfl (i_in (a := p2.toInt) rfl (by (first | exact om_f72f4702fe79 f21 rgz28.2 f36 | omega))) dX12_candidate_77 ?_
              have r37 : 0 ≤ ((V32 80 (Int32.toNatClampNeg p2))).toInt ∧ ((V32 80 (Int32.toNatClampNeg p2))).toInt ≤ 23 := hMV32 80 (Int32.toNatClampNeg p2)
              refine lv_goto (tgt := 82) hx hb dX12_candidate_78 (by decide) ?_
              exact W.iret (v := (V32 80 (Int32.toNatClampNeg p2))) hx hb hr (fun t ht hW => ⟨⟨(V32 80 (Int32.toNatClampNeg p2)), (V32, L), rfl, ⟨hMV32, agV32, rfl, (by rw [cnA_y (a := (Int32.toNatClampNeg p0)) (b := (Int32.toNatClampNeg p1)) (k := (Int32.toNatClampNeg p2)) (by omega) (by omega) (by omega) k0l j0l, nth_y (List.getElem?_eq_getElem (show (Int32.toNatClampNeg p2) < (clF gs.1 gv (gs.2.1 2).length (Int32.toNatClampNeg p0) (Int32.toNatClampNeg p1)).length from by omega))]; exact cv9.2 (Int32.toNatClampNeg p2) (by omega))⟩, by rw [ht]; exact hP, va_K.moved hW.alike hK, hD⟩, hS.F ht⟩) hS.2.2 dX12_candidate_82
          · skip
            have f38 : p2.toInt < 0 := b_nle (by decide) rfl c20
            refine lv_iconst (v := (-1)) hx hb dX12_candidate_48 (by decide) ?_
            exact W.iret (v := (-1)) hx hb hr (fun t ht hW => ⟨⟨(-1), (V3, L), rfl, ⟨hMV3, agV3, rfl, (by rw [cnA_n (fun h9 => by have h1 := h9.1; have h2 := h9.2.1; have h3 := h9.2.2.1; have h4 := h9.2.2.2.1; have h5 := h9.2.2.2.2; rw [fe9] at h4; omega)]; decide)⟩, by rw [ht]; exact hP, va_K.moved hW.alike hK, hD⟩, hS.F ht⟩) hS.2.2 dX12_candidate_49
