/-! bits -/
theorem bn_of {x : Int32} {n : Nat} (h : 0 ≤ x.toInt ∧ x.toInt < (n : Int)) : x.toBitVec.toNat < n ∧ (x.toBitVec.toNat : Int) = x.toInt := by
  have h2 : x.toInt = x.toBitVec.toInt := rfl
  have h3 := BitVec.toInt_eq_toNat_cond x.toBitVec
  have h4 := x.toBitVec.isLt
  rw [h2] at h ⊢
  rw [h3] at h ⊢
  split at h <;> split <;> omega
theorem bn_to {x : Int32} {n : Nat} (h : x.toBitVec.toNat < n) (hn : n ≤ 2147483648) : 0 ≤ x.toInt ∧ x.toInt < (n : Int) ∧ x.toInt = (x.toBitVec.toNat : Int) := by
  have h2 : x.toInt = x.toBitVec.toInt := rfl
  have h3 : x.toBitVec.toInt = (x.toBitVec.toNat : Int) := BitVec.toInt_eq_toNat_of_lt (by omega)
  omega
theorem or24 {x y z : Int32} (e : z = x ||| y) (hx : 0 ≤ x.toInt ∧ x.toInt < 16777216) (hy : 0 ≤ y.toInt ∧ y.toInt < 16777216) : 0 ≤ z.toInt ∧ z.toInt < 16777216 := by
  have ax := (bn_of (x := x) (n := 2 ^ 24) hx).1
  have ay := (bn_of (x := y) (n := 2 ^ 24) hy).1
  have az : z.toBitVec.toNat < 2 ^ 24 := by
    rw [e]
    show (x.toBitVec ||| y.toBitVec).toNat < 2 ^ 24
    rw [BitVec.toNat_or]
    exact Nat.or_lt_two_pow ax ay
  have b := bn_to az (by decide)
  exact ⟨b.1, b.2.1⟩
theorem shl_all : ∀ n : Fin 24, 0 ≤ ((1 : Int32) <<< (nI n.val &&& 31)).toInt ∧ ((1 : Int32) <<< (nI n.val &&& 31)).toInt < 16777216 := by decide +kernel
theorem shl1 {k z : Int32} (e : z = 1 <<< (k &&& 31)) (h : 0 ≤ k.toInt ∧ k.toInt ≤ 23) : 0 ≤ z.toInt ∧ z.toInt < 16777216 := by
  have c := i_clamp (x := k) rfl h.1
  have hk : k = nI (Int32.toNatClampNeg k) := Int32.toInt_inj.mp (by rw [nI_toInt (by omega)]; omega)
  rw [e, hk]
  exact shl_all ⟨Int32.toNatClampNeg k, by omega⟩
theorem and_left {x y z : Int32} (e : z = x &&& y) (hx : 0 ≤ x.toInt) : 0 ≤ z.toInt ∧ z.toInt ≤ x.toInt := by
  have f := i_full x
  have ax := bn_of (x := x) (n := 2147483648) ⟨hx, by omega⟩
  have az : z.toBitVec.toNat ≤ x.toBitVec.toNat := by
    rw [e]
    show (x.toBitVec &&& y.toBitVec).toNat ≤ _
    rw [BitVec.toNat_and]
    exact Nat.and_le_left
  have b := bn_to (x := z) (n := 2147483648) (by omega) (by decide)
  omega
theorem ushr_n {x y z : Int32} (e : z = (x.toUInt32 >>> (y.toUInt32 &&& Int32.toUInt32 31)).toInt32) (hx : 0 ≤ x.toInt) {k : Nat} (hk : y.toInt = (k : Int)) (h32 : k < 32) : z.toInt = ((x.toBitVec.toNat / 2 ^ k : Nat) : Int) ∧ (x.toBitVec.toNat : Int) = x.toInt := by
  have f := i_full x
  have ax := bn_of (x := x) (n := 2147483648) ⟨hx, by omega⟩
  have ay := bn_of (x := y) (n := 32) ⟨by omega, by omega⟩
  have hyk : y.toBitVec.toNat = k := by omega
  have hz : z.toBitVec.toNat = x.toBitVec.toNat / 2 ^ k := by
    rw [e]
    show (x.toUInt32 >>> (y.toUInt32 &&& Int32.toUInt32 31)).toNat = _
    rw [UInt32.toNat_shiftRight, UInt32.toNat_and]
    have e1 : (Int32.toUInt32 31).toNat = 2 ^ 5 - 1 := by decide
    have e2 : y.toUInt32.toNat = k := hyk
    have e3 : x.toUInt32.toNat = x.toBitVec.toNat := rfl
    rw [e1, Nat.and_two_pow_sub_one_eq_mod, e2, e3, Nat.mod_eq_of_lt (show k < 2 ^ 5 from h32), Nat.mod_eq_of_lt h32, Nat.shiftRight_eq_div_pow]
  have b := bn_to (x := z) (n := 2147483648) (by rw [hz]; exact Nat.lt_of_le_of_lt (Nat.div_le_self _ _) ax.1) (by decide)
  rw [b.2.2, hz]
  exact ⟨rfl, ax.2⟩
theorem ushr_l {x y z : Int32} {P : Nat} (e : z = (x.toUInt32 >>> (y.toUInt32 &&& Int32.toUInt32 31)).toInt32) (hx : 0 ≤ x.toInt) {k : Nat} (hk : y.toInt = (k : Int)) (h32 : k < 32) (hP : 2 ^ k = P) : z.toInt = x.toInt / (P : Int) := by
  have h := ushr_n e hx hk h32
  rw [h.1, hP, ← h.2]
  exact Int.natCast_ediv _ _
theorem ushr_24 {x y z : Int32} (e : z = (x.toUInt32 >>> (y.toUInt32 &&& Int32.toUInt32 31)).toInt32) (hx : 0 ≤ x.toInt ∧ x.toInt < 16777216) (hy : 0 ≤ y.toInt ∧ y.toInt < 24) : 0 ≤ z.toInt ∧ z.toInt < ((2 ^ (24 - y.toInt.toNat) : Nat) : Int) := by
  have h := ushr_n (k := y.toInt.toNat) e hx.1 (by omega) (by omega)
  have hX : x.toBitVec.toNat < 2 ^ 24 := by have := h.2; omega
  have q : x.toBitVec.toNat / 2 ^ y.toInt.toNat < 2 ^ (24 - y.toInt.toNat) := by
    rw [Nat.div_lt_iff_lt_mul (Nat.two_pow_pos _), ← Nat.pow_add, show 24 - y.toInt.toNat + y.toInt.toNat = 24 from by omega]
    exact hX
  rw [h.1]
  exact ⟨Int.natCast_nonneg _, Int.ofNat_lt.mpr q⟩
theorem ushr_0 {x y z : Int32} (e : z = (x.toUInt32 >>> (y.toUInt32 &&& Int32.toUInt32 31)).toInt32) (hx : 0 ≤ x.toInt ∧ x.toInt < 16777216) (hy : 24 ≤ y.toInt ∧ y.toInt < 32) : z.toInt = 0 := by
  have h := ushr_n (k := y.toInt.toNat) e hx.1 (by omega) (by omega)
  have hX : x.toBitVec.toNat < 2 ^ 24 := by have := h.2; omega
  have q : 2 ^ 24 ≤ 2 ^ y.toInt.toNat := Nat.pow_le_pow_right (by decide) (by omega)
  rw [h.1, Nat.div_eq_of_lt (by omega)]
  rfl
theorem ntz_y {x a c y : Int32} (e1 : a = x ^^^ (-1)) (e2 : c = x - 1) (e3 : y = a &&& c) (hx : 0 < x.toInt) : 0 ≤ y.toInt ∧ y.toInt < x.toInt ∧ ∀ m : Nat, x.toInt < ((2 ^ m : Nat) : Int) → x.toInt + y.toInt < ((2 ^ m : Nat) : Int) := by
  have f := i_full x
  have ec : c.toInt = x.toInt - 1 := i_sub e2 rfl (by decide) (by omega)
  have ax := bn_of (x := x) (n := 2147483648) ⟨by omega, by omega⟩
  have ac := bn_of (x := c) (n := 2147483648) ⟨by omega, by omega⟩
  have ey : y.toBitVec = (x.toBitVec ^^^ BitVec.allOnes 32) &&& c.toBitVec := by rw [e3, e1]; rfl
  have az : y.toBitVec.toNat ≤ c.toBitVec.toNat := by
    rw [ey, BitVec.toNat_and]
    exact Nat.and_le_right
  have b := bn_to (x := y) (n := 2147483648) (by omega) (by decide)
  have hz : x.toBitVec &&& y.toBitVec = 0#32 := by
    rw [ey]
    ext i hi
    rw [BitVec.getElem_and, BitVec.getElem_and, BitVec.getElem_xor, BitVec.getElem_allOnes, BitVec.getElem_zero]
    generalize x.toBitVec[i] = u
    generalize c.toBitVec[i] = v
    cases u <;> cases v <;> rfl
  refine ⟨b.1, by omega, fun m hm => ?_⟩
  have s := congrArg BitVec.toNat (BitVec.add_eq_or_of_and_eq_zero x.toBitVec y.toBitVec hz)
  rw [BitVec.toNat_add, BitVec.toNat_or, Nat.mod_eq_of_lt (by omega)] at s
  have hX : x.toBitVec.toNat < 2 ^ m := by omega
  have o := Nat.or_lt_two_pow hX (show y.toBitVec.toNat < 2 ^ m by omega)
  omega
theorem ntz_k {k m P : Nat} {x y : Int} (hP : 2 ^ k = P) (h1 : (P : Int) ≤ y) (h2 : x + y < ((2 ^ m : Nat) : Int)) (h3 : y < x) : k + 1 < m := by
  rcases Nat.lt_or_ge (k + 1) m with h | h
  · exact h
  · exfalso
    have q : 2 ^ m ≤ 2 ^ (k + 1) := Nat.pow_le_pow_right (by decide) h
    have q2 : 2 ^ (k + 1) = 2 * P := by rw [Nat.pow_succ, hP, Nat.mul_comm]
    omega
theorem ntz_0 {m : Nat} {x : Int} (h0 : 0 < x) (h : x < ((2 ^ m : Nat) : Int)) : 0 < m := by
  rcases Nat.eq_zero_or_pos m with h2 | h2
  · subst h2
    have : ((2 ^ 0 : Nat) : Int) = 1 := by decide
    omega
  · exact h2


abbrev r_x_nTZ2 : Room := { frames := 0, cells := 0, slots := 0, locals := 0 }
abbrev q_x_nTZ2 (D : va_G) (p0 : Int32) (A : Nat → Prop) : Array Value → State → Outcome → State → Prop := va_Qi (fun (r : Int32) (_ : Unit) => (0 ≤ r.toInt ∧ r.toInt ≤ 32) ∧ (∀ m : Nat, 0 < p0.toInt → p0.toInt < ((2 ^ m : Nat) : Int) → r.toInt < (m : Int))) (fun _ t => gq D A [] [] t) A
set_option maxHeartbeats 4000000 in
set_option maxRecDepth 100000 in
theorem x_nTZ2 (l : Launch) (D : va_G) (ks : KS) (sz : Nat) (p0 : Int32)  : Met l yJ6_numberOfTrailingZeros_0f7a4 (Cond.code yJ6_numberOfTrailingZeros_0f7a4 cJ6_numberOfTrailingZeros_0f7a4 2 (some .int) :: GW) r_x_nTZ2 (va_Pc [.int p0] (gp D ks ([]) ([]) sz)) (q_x_nTZ2 D p0 (va_A ([]) sz)) 0 0 (va_A ([]) sz) := by
  refine g_met (q_x_nTZ2 D p0) (by decide) (Nat.le_of_ble_eq_true rfl) ?_
  intro p e s m below meth c A ls H locs hx hb hr hml hown hg hlocks hin hnw hgk hP hK hD hS hA hl
  have hown : s.vm.findClass RJ6 = some m.cls := hown
  have hl : lv_has ls 2 [(0, .int p0)] := hl
  refine lv_iload_n hx hb dJ6_numberOfTrailingZeros_0f7a4_0 rfl (lv_at hl 0 rfl) ?_
  refine lv_iconst (v := (-1)) hx hb dJ6_numberOfTrailingZeros_0f7a4_1 (by decide) ?_
  refine lv_ixor hx hb dJ6_numberOfTrailingZeros_0f7a4_2 ?_
  refine lv_topi (fun z1 ez1 => ?_)
  refine lv_iload_n hx hb dJ6_numberOfTrailingZeros_0f7a4_3 rfl (lv_at hl 0 rfl) ?_
  refine lv_iconst (v := 1) hx hb dJ6_numberOfTrailingZeros_0f7a4_4 (by decide) ?_
  refine lv_isub hx hb dJ6_numberOfTrailingZeros_0f7a4_5 ?_
  have r2 := i_full p0
  refine lv_topi (fun z3 ez3 => ?_)
  have hz3 : Imp (-2147483648 ≤ p0.toInt - 1 ∧ p0.toInt - 1 ≤ 2147483647) (z3.toInt = p0.toInt - 1) := Imp.mk (fun hp => i_sub ez3 rfl (by decide) hp)
  refine lv_iand hx hb dJ6_numberOfTrailingZeros_0f7a4_6 ?_
  refine lv_topi (fun z4 ez4 => ?_)
  have nyf := i_full z4
  have nty : 0 < p0.toInt → _ := fun h => ntz_y ez1 ez3 ez4 h
  refine lv_istore_n (lv' := [(0, .int z4)]) hx hb dJ6_numberOfTrailingZeros_0f7a4_7 rfl hl (by decide) rfl (fun ls hl => ?_)
  refine lv_iload_n hx hb dJ6_numberOfTrailingZeros_0f7a4_8 rfl (lv_at hl 0 rfl) ?_
  refine lv_if_gt (tgt := 17) hx hb dJ6_numberOfTrailingZeros_0f7a4_9 (by decide) (fun c5 => ?_) (fun c5 => ?_)
  · skip
    have f6 : 0 < z4.toInt := b_lt (by decide) rfl c5
    refine lv_iconst (v := 1) hx hb dJ6_numberOfTrailingZeros_0f7a4_17 (by decide) ?_
    refine lv_istore_n (lv' := [(1, .int 1), (0, .int z4)]) hx hb dJ6_numberOfTrailingZeros_0f7a4_18 rfl hl (by decide) rfl (fun ls hl => ?_)
    refine lv_iload_n hx hb dJ6_numberOfTrailingZeros_0f7a4_19 rfl (lv_at hl 1 rfl) ?_
    refine lv_ldcw (v := 65536) hx hb hown (hg _ w1145) dJ6_numberOfTrailingZeros_0f7a4_20 ?_
    refine lv_icmp_le (tgt := 34) hx hb dJ6_numberOfTrailingZeros_0f7a4_23 (by decide) (fun c7 => ?_) (fun c7 => ?_)
    · skip
      have f8 : z4.toInt ≤ 65536 := b_le rfl (by decide) c7
      refine lv_iload_n hx hb dJ6_numberOfTrailingZeros_0f7a4_34 rfl (lv_at hl 1 rfl) ?_
      refine lv_sipush (v := 256) hx hb dJ6_numberOfTrailingZeros_0f7a4_35 (by decide) ?_
      refine lv_icmp_le (tgt := 49) hx hb dJ6_numberOfTrailingZeros_0f7a4_38 (by decide) (fun c9 => ?_) (fun c9 => ?_)
      · skip
        have f10 : z4.toInt ≤ 256 := b_le rfl (by decide) c9
        refine lv_iload_n hx hb dJ6_numberOfTrailingZeros_0f7a4_49 rfl (lv_at hl 1 rfl) ?_
        refine lv_bipush (v := 16) hx hb dJ6_numberOfTrailingZeros_0f7a4_50 (by decide) ?_
        refine lv_icmp_le (tgt := 62) hx hb dJ6_numberOfTrailingZeros_0f7a4_52 (by decide) (fun c11 => ?_) (fun c11 => ?_)
        · skip
          have f12 : z4.toInt ≤ 16 := b_le rfl (by decide) c11
          refine lv_iload_n hx hb dJ6_numberOfTrailingZeros_0f7a4_62 rfl (lv_at hl 1 rfl) ?_
          refine lv_iconst (v := 4) hx hb dJ6_numberOfTrailingZeros_0f7a4_63 (by decide) ?_
          refine lv_icmp_le (tgt := 74) hx hb dJ6_numberOfTrailingZeros_0f7a4_64 (by decide) (fun c13 => ?_) (fun c13 => ?_)
          · skip
            have f14 : z4.toInt ≤ 4 := b_le rfl (by decide) c13
            refine lv_iload_n hx hb dJ6_numberOfTrailingZeros_0f7a4_74 rfl (lv_at hl 0 rfl) ?_
            refine lv_iload_n hx hb dJ6_numberOfTrailingZeros_0f7a4_75 rfl (lv_at hl 1 rfl) ?_
            refine lv_iconst (v := 1) hx hb dJ6_numberOfTrailingZeros_0f7a4_76 (by decide) ?_
            refine lv_iushr hx hb dJ6_numberOfTrailingZeros_0f7a4_77 rfl ?_
            refine lv_topi (fun z15 ez15 => ?_)
            have hz15 : z15.toInt = z4.toInt / 2 := ushr_l (P := 2) (k := 1) ez15 (by first | omega | ((try (have i_hz3 := Imp.go hz3 (by omega))); omega)) (by decide) (by decide) (by decide)
            refine lv_iadd hx hb dJ6_numberOfTrailingZeros_0f7a4_78 ?_
            refine lv_topi (fun z16 ez16 => ?_)
            have hz16 : z16.toInt = 1 + z15.toInt := i_add ez16 (by decide) rfl (by omega)
            exact W.iret (v := z16) hx hb hr (fun t ht hW => ⟨⟨z16, (), rfl, ⟨(show 0 ≤ z16.toInt ∧ z16.toInt ≤ 32 from by first | omega | ((try (have i_hz3 := Imp.go hz3 (by omega))); omega)), (fun m h0 hm => (show z16.toInt < (m : Int) from by
                have a := nty h0
                have a1 := a.2.1
                have a2 := a.2.2 m hm
                rcases (show z15.toInt = 0 ∨ z15.toInt = 1 ∨ z15.toInt = 2 from by omega) with hh | hh | hh
                · have q := ntz_k (P := 1) (k := 0) (m := m) (by decide) (by omega) a2 a1
                  omega
                · have q := ntz_k (P := 2) (k := 1) (m := m) (by decide) (by omega) a2 a1
                  omega
                · have q := ntz_k (P := 4) (k := 2) (m := m) (by decide) (by omega) a2 a1
                  omega))⟩, by rw [ht]; exact hP, va_K.moved hW.alike hK, hD⟩, hS.F ht⟩) hS.2.2 dJ6_numberOfTrailingZeros_0f7a4_79
          · skip
            have f17 : 4 < z4.toInt := b_nle rfl (by decide) c13
            refine lv_iinc (v := 3) (lv' := [(1, .int 3), (0, .int z4)]) hx hb dJ6_numberOfTrailingZeros_0f7a4_67 hl (k := 0) rfl (by decide) (by decide) rfl (fun ls hl => ?_)
            refine lv_iload_n hx hb dJ6_numberOfTrailingZeros_0f7a4_70 rfl (lv_at hl 1 rfl) ?_
            refine lv_iconst (v := 2) hx hb dJ6_numberOfTrailingZeros_0f7a4_71 (by decide) ?_
            refine lv_iushr hx hb dJ6_numberOfTrailingZeros_0f7a4_72 rfl ?_
            refine lv_topi (fun z18 ez18 => ?_)
            have hz18 : z18.toInt = z4.toInt / 4 := ushr_l (P := 4) (k := 2) ez18 (by first | omega | ((try (have i_hz3 := Imp.go hz3 (by omega))); omega)) (by decide) (by decide) (by decide)
            refine lv_istore_n (lv' := [(0, .int z18), (1, .int 3)]) hx hb dJ6_numberOfTrailingZeros_0f7a4_73 rfl hl (by decide) rfl (fun ls hl => ?_)
            refine lv_iload_n hx hb dJ6_numberOfTrailingZeros_0f7a4_74 rfl (lv_at hl 1 rfl) ?_
            refine lv_iload_n hx hb dJ6_numberOfTrailingZeros_0f7a4_75 rfl (lv_at hl 0 rfl) ?_
            refine lv_iconst (v := 1) hx hb dJ6_numberOfTrailingZeros_0f7a4_76 (by decide) ?_
            refine lv_iushr hx hb dJ6_numberOfTrailingZeros_0f7a4_77 rfl ?_
            refine lv_topi (fun z19 ez19 => ?_)
            have hz19 : z19.toInt = z18.toInt / 2 := ushr_l (P := 2) (k := 1) ez19 (by first | omega | ((try (have i_hz3 := Imp.go hz3 (by omega))); omega)) (by decide) (by decide) (by decide)
            refine lv_iadd hx hb dJ6_numberOfTrailingZeros_0f7a4_78 ?_
            refine lv_topi (fun z20 ez20 => ?_)
            have hz20 : z20.toInt = 3 + z19.toInt := i_add ez20 (by decide) rfl (by omega)
            exact W.iret (v := z20) hx hb hr (fun t ht hW => ⟨⟨z20, (), rfl, ⟨(show 0 ≤ z20.toInt ∧ z20.toInt ≤ 32 from by first | omega | ((try (have i_hz3 := Imp.go hz3 (by omega))); omega)), (fun m h0 hm => (show z20.toInt < (m : Int) from by
                have a := nty h0
                have a1 := a.2.1
                have a2 := a.2.2 m hm
                rcases (show z19.toInt = 0 ∨ z19.toInt = 1 ∨ z19.toInt = 2 from by omega) with hh | hh | hh
                · have q := ntz_k (P := 4) (k := 2) (m := m) (by decide) (by omega) a2 a1
                  omega
                · have q := ntz_k (P := 8) (k := 3) (m := m) (by decide) (by omega) a2 a1
                  omega
                · have q := ntz_k (P := 16) (k := 4) (m := m) (by decide) (by omega) a2 a1
                  omega))⟩, by rw [ht]; exact hP, va_K.moved hW.alike hK, hD⟩, hS.F ht⟩) hS.2.2 dJ6_numberOfTrailingZeros_0f7a4_79
        · skip
          have f21 : 16 < z4.toInt := b_nle rfl (by decide) c11
          refine lv_iinc (v := 5) (lv' := [(1, .int 5), (0, .int z4)]) hx hb dJ6_numberOfTrailingZeros_0f7a4_55 hl (k := 0) rfl (by decide) (by decide) rfl (fun ls hl => ?_)
          refine lv_iload_n hx hb dJ6_numberOfTrailingZeros_0f7a4_58 rfl (lv_at hl 1 rfl) ?_
          refine lv_iconst (v := 4) hx hb dJ6_numberOfTrailingZeros_0f7a4_59 (by decide) ?_
          refine lv_iushr hx hb dJ6_numberOfTrailingZeros_0f7a4_60 rfl ?_
          refine lv_topi (fun z22 ez22 => ?_)
          have hz22 : z22.toInt = z4.toInt / 16 := ushr_l (P := 16) (k := 4) ez22 (by first | omega | ((try (have i_hz3 := Imp.go hz3 (by omega))); omega)) (by decide) (by decide) (by decide)
          refine lv_istore_n (lv' := [(0, .int z22), (1, .int 5)]) hx hb dJ6_numberOfTrailingZeros_0f7a4_61 rfl hl (by decide) rfl (fun ls hl => ?_)
          refine lv_iload_n hx hb dJ6_numberOfTrailingZeros_0f7a4_62 rfl (lv_at hl 0 rfl) ?_
          refine lv_iconst (v := 4) hx hb dJ6_numberOfTrailingZeros_0f7a4_63 (by decide) ?_
          refine lv_icmp_le (tgt := 74) hx hb dJ6_numberOfTrailingZeros_0f7a4_64 (by decide) (fun c23 => ?_) (fun c23 => ?_)
          · skip
            have f24 : z22.toInt ≤ 4 := b_le rfl (by decide) c23
            refine lv_iload_n hx hb dJ6_numberOfTrailingZeros_0f7a4_74 rfl (lv_at hl 1 rfl) ?_
            refine lv_iload_n hx hb dJ6_numberOfTrailingZeros_0f7a4_75 rfl (lv_at hl 0 rfl) ?_
            refine lv_iconst (v := 1) hx hb dJ6_numberOfTrailingZeros_0f7a4_76 (by decide) ?_
            refine lv_iushr hx hb dJ6_numberOfTrailingZeros_0f7a4_77 rfl ?_
            refine lv_topi (fun z25 ez25 => ?_)
            have hz25 : z25.toInt = z22.toInt / 2 := ushr_l (P := 2) (k := 1) ez25 (by first | omega | ((try (have i_hz3 := Imp.go hz3 (by omega))); omega)) (by decide) (by decide) (by decide)
            refine lv_iadd hx hb dJ6_numberOfTrailingZeros_0f7a4_78 ?_
            refine lv_topi (fun z26 ez26 => ?_)
            have hz26 : z26.toInt = 5 + z25.toInt := i_add ez26 (by decide) rfl (by omega)
            exact W.iret (v := z26) hx hb hr (fun t ht hW => ⟨⟨z26, (), rfl, ⟨(show 0 ≤ z26.toInt ∧ z26.toInt ≤ 32 from by first | omega | ((try (have i_hz3 := Imp.go hz3 (by omega))); omega)), (fun m h0 hm => (show z26.toInt < (m : Int) from by
                have a := nty h0
                have a1 := a.2.1
                have a2 := a.2.2 m hm
                rcases (show z25.toInt = 0 ∨ z25.toInt = 1 ∨ z25.toInt = 2 from by omega) with hh | hh | hh
                · have q := ntz_k (P := 16) (k := 4) (m := m) (by decide) (by omega) a2 a1
                  omega
                · have q := ntz_k (P := 32) (k := 5) (m := m) (by decide) (by omega) a2 a1
                  omega
                · have q := ntz_k (P := 64) (k := 6) (m := m) (by decide) (by omega) a2 a1
                  omega))⟩, by rw [ht]; exact hP, va_K.moved hW.alike hK, hD⟩, hS.F ht⟩) hS.2.2 dJ6_numberOfTrailingZeros_0f7a4_79
          · skip
            have f27 : 4 < z22.toInt := b_nle rfl (by decide) c23
            refine lv_iinc (v := 7) (lv' := [(1, .int 7), (0, .int z22)]) hx hb dJ6_numberOfTrailingZeros_0f7a4_67 hl (k := 1) rfl (by decide) (by decide) rfl (fun ls hl => ?_)
            refine lv_iload_n hx hb dJ6_numberOfTrailingZeros_0f7a4_70 rfl (lv_at hl 1 rfl) ?_
            refine lv_iconst (v := 2) hx hb dJ6_numberOfTrailingZeros_0f7a4_71 (by decide) ?_
            refine lv_iushr hx hb dJ6_numberOfTrailingZeros_0f7a4_72 rfl ?_
            refine lv_topi (fun z28 ez28 => ?_)
            have hz28 : z28.toInt = z22.toInt / 4 := ushr_l (P := 4) (k := 2) ez28 (by first | omega | ((try (have i_hz3 := Imp.go hz3 (by omega))); omega)) (by decide) (by decide) (by decide)
            refine lv_istore_n (lv' := [(0, .int z28), (1, .int 7)]) hx hb dJ6_numberOfTrailingZeros_0f7a4_73 rfl hl (by decide) rfl (fun ls hl => ?_)
            refine lv_iload_n hx hb dJ6_numberOfTrailingZeros_0f7a4_74 rfl (lv_at hl 1 rfl) ?_
            refine lv_iload_n hx hb dJ6_numberOfTrailingZeros_0f7a4_75 rfl (lv_at hl 0 rfl) ?_
            refine lv_iconst (v := 1) hx hb dJ6_numberOfTrailingZeros_0f7a4_76 (by decide) ?_
            refine lv_iushr hx hb dJ6_numberOfTrailingZeros_0f7a4_77 rfl ?_
            refine lv_topi (fun z29 ez29 => ?_)
            have hz29 : z29.toInt = z28.toInt / 2 := ushr_l (P := 2) (k := 1) ez29 (by first | omega | ((try (have i_hz3 := Imp.go hz3 (by omega))); omega)) (by decide) (by decide) (by decide)
            refine lv_iadd hx hb dJ6_numberOfTrailingZeros_0f7a4_78 ?_
            refine lv_topi (fun z30 ez30 => ?_)
            have hz30 : z30.toInt = 7 + z29.toInt := i_add ez30 (by decide) rfl (by omega)
            exact W.iret (v := z30) hx hb hr (fun t ht hW => ⟨⟨z30, (), rfl, ⟨(show 0 ≤ z30.toInt ∧ z30.toInt ≤ 32 from by first | omega | ((try (have i_hz3 := Imp.go hz3 (by omega))); omega)), (fun m h0 hm => (show z30.toInt < (m : Int) from by
                have a := nty h0
                have a1 := a.2.1
                have a2 := a.2.2 m hm
                rcases (show z29.toInt = 0 ∨ z29.toInt = 1 ∨ z29.toInt = 2 from by omega) with hh | hh | hh
                · have q := ntz_k (P := 64) (k := 6) (m := m) (by decide) (by omega) a2 a1
                  omega
                · have q := ntz_k (P := 128) (k := 7) (m := m) (by decide) (by omega) a2 a1
                  omega
                · have q := ntz_k (P := 256) (k := 8) (m := m) (by decide) (by omega) a2 a1
                  omega))⟩, by rw [ht]; exact hP, va_K.moved hW.alike hK, hD⟩, hS.F ht⟩) hS.2.2 dJ6_numberOfTrailingZeros_0f7a4_79
      · skip
        have f31 : 256 < z4.toInt := b_nle rfl (by decide) c9
        refine lv_iinc (v := 9) (lv' := [(1, .int 9), (0, .int z4)]) hx hb dJ6_numberOfTrailingZeros_0f7a4_41 hl (k := 0) rfl (by decide) (by decide) rfl (fun ls hl => ?_)
        refine lv_iload_n hx hb dJ6_numberOfTrailingZeros_0f7a4_44 rfl (lv_at hl 1 rfl) ?_
        refine lv_bipush (v := 8) hx hb dJ6_numberOfTrailingZeros_0f7a4_45 (by decide) ?_
        refine lv_iushr hx hb dJ6_numberOfTrailingZeros_0f7a4_47 rfl ?_
        refine lv_topi (fun z32 ez32 => ?_)
        have hz32 : z32.toInt = z4.toInt / 256 := ushr_l (P := 256) (k := 8) ez32 (by first | omega | ((try (have i_hz3 := Imp.go hz3 (by omega))); omega)) (by decide) (by decide) (by decide)
        refine lv_istore_n (lv' := [(0, .int z32), (1, .int 9)]) hx hb dJ6_numberOfTrailingZeros_0f7a4_48 rfl hl (by decide) rfl (fun ls hl => ?_)
        refine lv_iload_n hx hb dJ6_numberOfTrailingZeros_0f7a4_49 rfl (lv_at hl 0 rfl) ?_
        refine lv_bipush (v := 16) hx hb dJ6_numberOfTrailingZeros_0f7a4_50 (by decide) ?_
        refine lv_icmp_le (tgt := 62) hx hb dJ6_numberOfTrailingZeros_0f7a4_52 (by decide) (fun c33 => ?_) (fun c33 => ?_)
        · skip
          have f34 : z32.toInt ≤ 16 := b_le rfl (by decide) c33
          refine lv_iload_n hx hb dJ6_numberOfTrailingZeros_0f7a4_62 rfl (lv_at hl 0 rfl) ?_
          refine lv_iconst (v := 4) hx hb dJ6_numberOfTrailingZeros_0f7a4_63 (by decide) ?_
          refine lv_icmp_le (tgt := 74) hx hb dJ6_numberOfTrailingZeros_0f7a4_64 (by decide) (fun c35 => ?_) (fun c35 => ?_)
          · skip
            have f36 : z32.toInt ≤ 4 := b_le rfl (by decide) c35
            refine lv_iload_n hx hb dJ6_numberOfTrailingZeros_0f7a4_74 rfl (lv_at hl 1 rfl) ?_
            refine lv_iload_n hx hb dJ6_numberOfTrailingZeros_0f7a4_75 rfl (lv_at hl 0 rfl) ?_
            refine lv_iconst (v := 1) hx hb dJ6_numberOfTrailingZeros_0f7a4_76 (by decide) ?_
            refine lv_iushr hx hb dJ6_numberOfTrailingZeros_0f7a4_77 rfl ?_
            refine lv_topi (fun z37 ez37 => ?_)
            have hz37 : z37.toInt = z32.toInt / 2 := ushr_l (P := 2) (k := 1) ez37 (by first | omega | ((try (have i_hz3 := Imp.go hz3 (by omega))); omega)) (by decide) (by decide) (by decide)
            refine lv_iadd hx hb dJ6_numberOfTrailingZeros_0f7a4_78 ?_
            refine lv_topi (fun z38 ez38 => ?_)
            have hz38 : z38.toInt = 9 + z37.toInt := i_add ez38 (by decide) rfl (by omega)
            exact W.iret (v := z38) hx hb hr (fun t ht hW => ⟨⟨z38, (), rfl, ⟨(show 0 ≤ z38.toInt ∧ z38.toInt ≤ 32 from by first | omega | ((try (have i_hz3 := Imp.go hz3 (by omega))); omega)), (fun m h0 hm => (show z38.toInt < (m : Int) from by
                have a := nty h0
                have a1 := a.2.1
                have a2 := a.2.2 m hm
                rcases (show z37.toInt = 0 ∨ z37.toInt = 1 ∨ z37.toInt = 2 from by omega) with hh | hh | hh
                · have q := ntz_k (P := 256) (k := 8) (m := m) (by decide) (by omega) a2 a1
                  omega
                · have q := ntz_k (P := 512) (k := 9) (m := m) (by decide) (by omega) a2 a1
                  omega
                · have q := ntz_k (P := 1024) (k := 10) (m := m) (by decide) (by omega) a2 a1
                  omega))⟩, by rw [ht]; exact hP, va_K.moved hW.alike hK, hD⟩, hS.F ht⟩) hS.2.2 dJ6_numberOfTrailingZeros_0f7a4_79
          · skip
            have f39 : 4 < z32.toInt := b_nle rfl (by decide) c35
            refine lv_iinc (v := 11) (lv' := [(1, .int 11), (0, .int z32)]) hx hb dJ6_numberOfTrailingZeros_0f7a4_67 hl (k := 1) rfl (by decide) (by decide) rfl (fun ls hl => ?_)
            refine lv_iload_n hx hb dJ6_numberOfTrailingZeros_0f7a4_70 rfl (lv_at hl 1 rfl) ?_
            refine lv_iconst (v := 2) hx hb dJ6_numberOfTrailingZeros_0f7a4_71 (by decide) ?_
            refine lv_iushr hx hb dJ6_numberOfTrailingZeros_0f7a4_72 rfl ?_
            refine lv_topi (fun z40 ez40 => ?_)
            have hz40 : z40.toInt = z32.toInt / 4 := ushr_l (P := 4) (k := 2) ez40 (by first | omega | ((try (have i_hz3 := Imp.go hz3 (by omega))); omega)) (by decide) (by decide) (by decide)
            refine lv_istore_n (lv' := [(0, .int z40), (1, .int 11)]) hx hb dJ6_numberOfTrailingZeros_0f7a4_73 rfl hl (by decide) rfl (fun ls hl => ?_)
            refine lv_iload_n hx hb dJ6_numberOfTrailingZeros_0f7a4_74 rfl (lv_at hl 1 rfl) ?_
            refine lv_iload_n hx hb dJ6_numberOfTrailingZeros_0f7a4_75 rfl (lv_at hl 0 rfl) ?_
            refine lv_iconst (v := 1) hx hb dJ6_numberOfTrailingZeros_0f7a4_76 (by decide) ?_
            refine lv_iushr hx hb dJ6_numberOfTrailingZeros_0f7a4_77 rfl ?_
            refine lv_topi (fun z41 ez41 => ?_)
            have hz41 : z41.toInt = z40.toInt / 2 := ushr_l (P := 2) (k := 1) ez41 (by first | omega | ((try (have i_hz3 := Imp.go hz3 (by omega))); omega)) (by decide) (by decide) (by decide)
            refine lv_iadd hx hb dJ6_numberOfTrailingZeros_0f7a4_78 ?_
            refine lv_topi (fun z42 ez42 => ?_)
            have hz42 : z42.toInt = 11 + z41.toInt := i_add ez42 (by decide) rfl (by omega)
            exact W.iret (v := z42) hx hb hr (fun t ht hW => ⟨⟨z42, (), rfl, ⟨(show 0 ≤ z42.toInt ∧ z42.toInt ≤ 32 from by first | omega | ((try (have i_hz3 := Imp.go hz3 (by omega))); omega)), (fun m h0 hm => (show z42.toInt < (m : Int) from by
                have a := nty h0
                have a1 := a.2.1
                have a2 := a.2.2 m hm
                rcases (show z41.toInt = 0 ∨ z41.toInt = 1 ∨ z41.toInt = 2 from by omega) with hh | hh | hh
                · have q := ntz_k (P := 1024) (k := 10) (m := m) (by decide) (by omega) a2 a1
                  omega
                · have q := ntz_k (P := 2048) (k := 11) (m := m) (by decide) (by omega) a2 a1
                  omega
                · have q := ntz_k (P := 4096) (k := 12) (m := m) (by decide) (by omega) a2 a1
                  omega))⟩, by rw [ht]; exact hP, va_K.moved hW.alike hK, hD⟩, hS.F ht⟩) hS.2.2 dJ6_numberOfTrailingZeros_0f7a4_79
        · skip
          have f43 : 16 < z32.toInt := b_nle rfl (by decide) c33
          refine lv_iinc (v := 13) (lv' := [(1, .int 13), (0, .int z32)]) hx hb dJ6_numberOfTrailingZeros_0f7a4_55 hl (k := 1) rfl (by decide) (by decide) rfl (fun ls hl => ?_)
          refine lv_iload_n hx hb dJ6_numberOfTrailingZeros_0f7a4_58 rfl (lv_at hl 1 rfl) ?_
          refine lv_iconst (v := 4) hx hb dJ6_numberOfTrailingZeros_0f7a4_59 (by decide) ?_
          refine lv_iushr hx hb dJ6_numberOfTrailingZeros_0f7a4_60 rfl ?_
          refine lv_topi (fun z44 ez44 => ?_)
          have hz44 : z44.toInt = z32.toInt / 16 := ushr_l (P := 16) (k := 4) ez44 (by first | omega | ((try (have i_hz3 := Imp.go hz3 (by omega))); omega)) (by decide) (by decide) (by decide)
          refine lv_istore_n (lv' := [(0, .int z44), (1, .int 13)]) hx hb dJ6_numberOfTrailingZeros_0f7a4_61 rfl hl (by decide) rfl (fun ls hl => ?_)
          refine lv_iload_n hx hb dJ6_numberOfTrailingZeros_0f7a4_62 rfl (lv_at hl 0 rfl) ?_
          refine lv_iconst (v := 4) hx hb dJ6_numberOfTrailingZeros_0f7a4_63 (by decide) ?_
          refine lv_icmp_le (tgt := 74) hx hb dJ6_numberOfTrailingZeros_0f7a4_64 (by decide) (fun c45 => ?_) (fun c45 => ?_)
          · skip
            have f46 : z44.toInt ≤ 4 := b_le rfl (by decide) c45
            refine lv_iload_n hx hb dJ6_numberOfTrailingZeros_0f7a4_74 rfl (lv_at hl 1 rfl) ?_
            refine lv_iload_n hx hb dJ6_numberOfTrailingZeros_0f7a4_75 rfl (lv_at hl 0 rfl) ?_
            refine lv_iconst (v := 1) hx hb dJ6_numberOfTrailingZeros_0f7a4_76 (by decide) ?_
            refine lv_iushr hx hb dJ6_numberOfTrailingZeros_0f7a4_77 rfl ?_
            refine lv_topi (fun z47 ez47 => ?_)
            have hz47 : z47.toInt = z44.toInt / 2 := ushr_l (P := 2) (k := 1) ez47 (by first | omega | ((try (have i_hz3 := Imp.go hz3 (by omega))); omega)) (by decide) (by decide) (by decide)
            refine lv_iadd hx hb dJ6_numberOfTrailingZeros_0f7a4_78 ?_
            refine lv_topi (fun z48 ez48 => ?_)
            have hz48 : z48.toInt = 13 + z47.toInt := i_add ez48 (by decide) rfl (by omega)
            exact W.iret (v := z48) hx hb hr (fun t ht hW => ⟨⟨z48, (), rfl, ⟨(show 0 ≤ z48.toInt ∧ z48.toInt ≤ 32 from by first | omega | ((try (have i_hz3 := Imp.go hz3 (by omega))); omega)), (fun m h0 hm => (show z48.toInt < (m : Int) from by
                have a := nty h0
                have a1 := a.2.1
                have a2 := a.2.2 m hm
                rcases (show z47.toInt = 0 ∨ z47.toInt = 1 ∨ z47.toInt = 2 from by omega) with hh | hh | hh
                · have q := ntz_k (P := 4096) (k := 12) (m := m) (by decide) (by omega) a2 a1
                  omega
                · have q := ntz_k (P := 8192) (k := 13) (m := m) (by decide) (by omega) a2 a1
                  omega
                · have q := ntz_k (P := 16384) (k := 14) (m := m) (by decide) (by omega) a2 a1
                  omega))⟩, by rw [ht]; exact hP, va_K.moved hW.alike hK, hD⟩, hS.F ht⟩) hS.2.2 dJ6_numberOfTrailingZeros_0f7a4_79
          · skip
            have f49 : 4 < z44.toInt := b_nle rfl (by decide) c45
            refine lv_iinc (v := 15) (lv' := [(1, .int 15), (0, .int z44)]) hx hb dJ6_numberOfTrailingZeros_0f7a4_67 hl (k := 1) rfl (by decide) (by decide) rfl (fun ls hl => ?_)
            refine lv_iload_n hx hb dJ6_numberOfTrailingZeros_0f7a4_70 rfl (lv_at hl 1 rfl) ?_
            refine lv_iconst (v := 2) hx hb dJ6_numberOfTrailingZeros_0f7a4_71 (by decide) ?_
            refine lv_iushr hx hb dJ6_numberOfTrailingZeros_0f7a4_72 rfl ?_
            refine lv_topi (fun z50 ez50 => ?_)
            have hz50 : z50.toInt = z44.toInt / 4 := ushr_l (P := 4) (k := 2) ez50 (by first | omega | ((try (have i_hz3 := Imp.go hz3 (by omega))); omega)) (by decide) (by decide) (by decide)
            refine lv_istore_n (lv' := [(0, .int z50), (1, .int 15)]) hx hb dJ6_numberOfTrailingZeros_0f7a4_73 rfl hl (by decide) rfl (fun ls hl => ?_)
            refine lv_iload_n hx hb dJ6_numberOfTrailingZeros_0f7a4_74 rfl (lv_at hl 1 rfl) ?_
            refine lv_iload_n hx hb dJ6_numberOfTrailingZeros_0f7a4_75 rfl (lv_at hl 0 rfl) ?_
            refine lv_iconst (v := 1) hx hb dJ6_numberOfTrailingZeros_0f7a4_76 (by decide) ?_
            refine lv_iushr hx hb dJ6_numberOfTrailingZeros_0f7a4_77 rfl ?_
            refine lv_topi (fun z51 ez51 => ?_)
            have hz51 : z51.toInt = z50.toInt / 2 := ushr_l (P := 2) (k := 1) ez51 (by first | omega | ((try (have i_hz3 := Imp.go hz3 (by omega))); omega)) (by decide) (by decide) (by decide)
            refine lv_iadd hx hb dJ6_numberOfTrailingZeros_0f7a4_78 ?_
            refine lv_topi (fun z52 ez52 => ?_)
            have hz52 : z52.toInt = 15 + z51.toInt := i_add ez52 (by decide) rfl (by omega)
            exact W.iret (v := z52) hx hb hr (fun t ht hW => ⟨⟨z52, (), rfl, ⟨(show 0 ≤ z52.toInt ∧ z52.toInt ≤ 32 from by first | omega | ((try (have i_hz3 := Imp.go hz3 (by omega))); omega)), (fun m h0 hm => (show z52.toInt < (m : Int) from by
                have a := nty h0
                have a1 := a.2.1
                have a2 := a.2.2 m hm
                rcases (show z51.toInt = 0 ∨ z51.toInt = 1 ∨ z51.toInt = 2 from by omega) with hh | hh | hh
                · have q := ntz_k (P := 16384) (k := 14) (m := m) (by decide) (by omega) a2 a1
                  omega
                · have q := ntz_k (P := 32768) (k := 15) (m := m) (by decide) (by omega) a2 a1
                  omega
                · have q := ntz_k (P := 65536) (k := 16) (m := m) (by decide) (by omega) a2 a1
                  omega))⟩, by rw [ht]; exact hP, va_K.moved hW.alike hK, hD⟩, hS.F ht⟩) hS.2.2 dJ6_numberOfTrailingZeros_0f7a4_79
    · skip
      have f53 : 65536 < z4.toInt := b_nle rfl (by decide) c7
      refine lv_iinc (v := 17) (lv' := [(1, .int 17), (0, .int z4)]) hx hb dJ6_numberOfTrailingZeros_0f7a4_26 hl (k := 0) rfl (by decide) (by decide) rfl (fun ls hl => ?_)
      refine lv_iload_n hx hb dJ6_numberOfTrailingZeros_0f7a4_29 rfl (lv_at hl 1 rfl) ?_
      refine lv_bipush (v := 16) hx hb dJ6_numberOfTrailingZeros_0f7a4_30 (by decide) ?_
      refine lv_iushr hx hb dJ6_numberOfTrailingZeros_0f7a4_32 rfl ?_
      refine lv_topi (fun z54 ez54 => ?_)
      have hz54 : z54.toInt = z4.toInt / 65536 := ushr_l (P := 65536) (k := 16) ez54 (by first | omega | ((try (have i_hz3 := Imp.go hz3 (by omega))); omega)) (by decide) (by decide) (by decide)
      refine lv_istore_n (lv' := [(0, .int z54), (1, .int 17)]) hx hb dJ6_numberOfTrailingZeros_0f7a4_33 rfl hl (by decide) rfl (fun ls hl => ?_)
      refine lv_iload_n hx hb dJ6_numberOfTrailingZeros_0f7a4_34 rfl (lv_at hl 0 rfl) ?_
      refine lv_sipush (v := 256) hx hb dJ6_numberOfTrailingZeros_0f7a4_35 (by decide) ?_
      refine lv_icmp_le (tgt := 49) hx hb dJ6_numberOfTrailingZeros_0f7a4_38 (by decide) (fun c55 => ?_) (fun c55 => ?_)
      · skip
        have f56 : z54.toInt ≤ 256 := b_le rfl (by decide) c55
        refine lv_iload_n hx hb dJ6_numberOfTrailingZeros_0f7a4_49 rfl (lv_at hl 0 rfl) ?_
        refine lv_bipush (v := 16) hx hb dJ6_numberOfTrailingZeros_0f7a4_50 (by decide) ?_
        refine lv_icmp_le (tgt := 62) hx hb dJ6_numberOfTrailingZeros_0f7a4_52 (by decide) (fun c57 => ?_) (fun c57 => ?_)
        · skip
          have f58 : z54.toInt ≤ 16 := b_le rfl (by decide) c57
          refine lv_iload_n hx hb dJ6_numberOfTrailingZeros_0f7a4_62 rfl (lv_at hl 0 rfl) ?_
          refine lv_iconst (v := 4) hx hb dJ6_numberOfTrailingZeros_0f7a4_63 (by decide) ?_
          refine lv_icmp_le (tgt := 74) hx hb dJ6_numberOfTrailingZeros_0f7a4_64 (by decide) (fun c59 => ?_) (fun c59 => ?_)
          · skip
            have f60 : z54.toInt ≤ 4 := b_le rfl (by decide) c59
            refine lv_iload_n hx hb dJ6_numberOfTrailingZeros_0f7a4_74 rfl (lv_at hl 1 rfl) ?_
            refine lv_iload_n hx hb dJ6_numberOfTrailingZeros_0f7a4_75 rfl (lv_at hl 0 rfl) ?_
            refine lv_iconst (v := 1) hx hb dJ6_numberOfTrailingZeros_0f7a4_76 (by decide) ?_
            refine lv_iushr hx hb dJ6_numberOfTrailingZeros_0f7a4_77 rfl ?_
            refine lv_topi (fun z61 ez61 => ?_)
            have hz61 : z61.toInt = z54.toInt / 2 := ushr_l (P := 2) (k := 1) ez61 (by first | omega | ((try (have i_hz3 := Imp.go hz3 (by omega))); omega)) (by decide) (by decide) (by decide)
            refine lv_iadd hx hb dJ6_numberOfTrailingZeros_0f7a4_78 ?_
            refine lv_topi (fun z62 ez62 => ?_)
            have hz62 : z62.toInt = 17 + z61.toInt := i_add ez62 (by decide) rfl (by omega)
            exact W.iret (v := z62) hx hb hr (fun t ht hW => ⟨⟨z62, (), rfl, ⟨(show 0 ≤ z62.toInt ∧ z62.toInt ≤ 32 from by first | omega | ((try (have i_hz3 := Imp.go hz3 (by omega))); omega)), (fun m h0 hm => (show z62.toInt < (m : Int) from by
                have a := nty h0
                have a1 := a.2.1
                have a2 := a.2.2 m hm
                rcases (show z61.toInt = 0 ∨ z61.toInt = 1 ∨ z61.toInt = 2 from by omega) with hh | hh | hh
                · have q := ntz_k (P := 65536) (k := 16) (m := m) (by decide) (by omega) a2 a1
                  omega
                · have q := ntz_k (P := 131072) (k := 17) (m := m) (by decide) (by omega) a2 a1
                  omega
                · have q := ntz_k (P := 262144) (k := 18) (m := m) (by decide) (by omega) a2 a1
                  omega))⟩, by rw [ht]; exact hP, va_K.moved hW.alike hK, hD⟩, hS.F ht⟩) hS.2.2 dJ6_numberOfTrailingZeros_0f7a4_79
          · skip
            have f63 : 4 < z54.toInt := b_nle rfl (by decide) c59
            refine lv_iinc (v := 19) (lv' := [(1, .int 19), (0, .int z54)]) hx hb dJ6_numberOfTrailingZeros_0f7a4_67 hl (k := 1) rfl (by decide) (by decide) rfl (fun ls hl => ?_)
            refine lv_iload_n hx hb dJ6_numberOfTrailingZeros_0f7a4_70 rfl (lv_at hl 1 rfl) ?_
            refine lv_iconst (v := 2) hx hb dJ6_numberOfTrailingZeros_0f7a4_71 (by decide) ?_
            refine lv_iushr hx hb dJ6_numberOfTrailingZeros_0f7a4_72 rfl ?_
            refine lv_topi (fun z64 ez64 => ?_)
            have hz64 : z64.toInt = z54.toInt / 4 := ushr_l (P := 4) (k := 2) ez64 (by first | omega | ((try (have i_hz3 := Imp.go hz3 (by omega))); omega)) (by decide) (by decide) (by decide)
            refine lv_istore_n (lv' := [(0, .int z64), (1, .int 19)]) hx hb dJ6_numberOfTrailingZeros_0f7a4_73 rfl hl (by decide) rfl (fun ls hl => ?_)
            refine lv_iload_n hx hb dJ6_numberOfTrailingZeros_0f7a4_74 rfl (lv_at hl 1 rfl) ?_
            refine lv_iload_n hx hb dJ6_numberOfTrailingZeros_0f7a4_75 rfl (lv_at hl 0 rfl) ?_
            refine lv_iconst (v := 1) hx hb dJ6_numberOfTrailingZeros_0f7a4_76 (by decide) ?_
            refine lv_iushr hx hb dJ6_numberOfTrailingZeros_0f7a4_77 rfl ?_
            refine lv_topi (fun z65 ez65 => ?_)
            have hz65 : z65.toInt = z64.toInt / 2 := ushr_l (P := 2) (k := 1) ez65 (by first | omega | ((try (have i_hz3 := Imp.go hz3 (by omega))); omega)) (by decide) (by decide) (by decide)
            refine lv_iadd hx hb dJ6_numberOfTrailingZeros_0f7a4_78 ?_
            refine lv_topi (fun z66 ez66 => ?_)
            have hz66 : z66.toInt = 19 + z65.toInt := i_add ez66 (by decide) rfl (by omega)
            exact W.iret (v := z66) hx hb hr (fun t ht hW => ⟨⟨z66, (), rfl, ⟨(show 0 ≤ z66.toInt ∧ z66.toInt ≤ 32 from by first | omega | ((try (have i_hz3 := Imp.go hz3 (by omega))); omega)), (fun m h0 hm => (show z66.toInt < (m : Int) from by
                have a := nty h0
                have a1 := a.2.1
                have a2 := a.2.2 m hm
                rcases (show z65.toInt = 0 ∨ z65.toInt = 1 ∨ z65.toInt = 2 from by omega) with hh | hh | hh
                · have q := ntz_k (P := 262144) (k := 18) (m := m) (by decide) (by omega) a2 a1
                  omega
                · have q := ntz_k (P := 524288) (k := 19) (m := m) (by decide) (by omega) a2 a1
                  omega
                · have q := ntz_k (P := 1048576) (k := 20) (m := m) (by decide) (by omega) a2 a1
                  omega))⟩, by rw [ht]; exact hP, va_K.moved hW.alike hK, hD⟩, hS.F ht⟩) hS.2.2 dJ6_numberOfTrailingZeros_0f7a4_79
        · skip
          have f67 : 16 < z54.toInt := b_nle rfl (by decide) c57
          refine lv_iinc (v := 21) (lv' := [(1, .int 21), (0, .int z54)]) hx hb dJ6_numberOfTrailingZeros_0f7a4_55 hl (k := 1) rfl (by decide) (by decide) rfl (fun ls hl => ?_)
          refine lv_iload_n hx hb dJ6_numberOfTrailingZeros_0f7a4_58 rfl (lv_at hl 1 rfl) ?_
          refine lv_iconst (v := 4) hx hb dJ6_numberOfTrailingZeros_0f7a4_59 (by decide) ?_
          refine lv_iushr hx hb dJ6_numberOfTrailingZeros_0f7a4_60 rfl ?_
          refine lv_topi (fun z68 ez68 => ?_)
          have hz68 : z68.toInt = z54.toInt / 16 := ushr_l (P := 16) (k := 4) ez68 (by first | omega | ((try (have i_hz3 := Imp.go hz3 (by omega))); omega)) (by decide) (by decide) (by decide)
          refine lv_istore_n (lv' := [(0, .int z68), (1, .int 21)]) hx hb dJ6_numberOfTrailingZeros_0f7a4_61 rfl hl (by decide) rfl (fun ls hl => ?_)
          refine lv_iload_n hx hb dJ6_numberOfTrailingZeros_0f7a4_62 rfl (lv_at hl 0 rfl) ?_
          refine lv_iconst (v := 4) hx hb dJ6_numberOfTrailingZeros_0f7a4_63 (by decide) ?_
          refine lv_icmp_le (tgt := 74) hx hb dJ6_numberOfTrailingZeros_0f7a4_64 (by decide) (fun c69 => ?_) (fun c69 => ?_)
          · skip
            have f70 : z68.toInt ≤ 4 := b_le rfl (by decide) c69
            refine lv_iload_n hx hb dJ6_numberOfTrailingZeros_0f7a4_74 rfl (lv_at hl 1 rfl) ?_
            refine lv_iload_n hx hb dJ6_numberOfTrailingZeros_0f7a4_75 rfl (lv_at hl 0 rfl) ?_
            refine lv_iconst (v := 1) hx hb dJ6_numberOfTrailingZeros_0f7a4_76 (by decide) ?_
            refine lv_iushr hx hb dJ6_numberOfTrailingZeros_0f7a4_77 rfl ?_
            refine lv_topi (fun z71 ez71 => ?_)
            have hz71 : z71.toInt = z68.toInt / 2 := ushr_l (P := 2) (k := 1) ez71 (by first | omega | ((try (have i_hz3 := Imp.go hz3 (by omega))); omega)) (by decide) (by decide) (by decide)
            refine lv_iadd hx hb dJ6_numberOfTrailingZeros_0f7a4_78 ?_
            refine lv_topi (fun z72 ez72 => ?_)
            have hz72 : z72.toInt = 21 + z71.toInt := i_add ez72 (by decide) rfl (by omega)
            exact W.iret (v := z72) hx hb hr (fun t ht hW => ⟨⟨z72, (), rfl, ⟨(show 0 ≤ z72.toInt ∧ z72.toInt ≤ 32 from by first | omega | ((try (have i_hz3 := Imp.go hz3 (by omega))); omega)), (fun m h0 hm => (show z72.toInt < (m : Int) from by
                have a := nty h0
                have a1 := a.2.1
                have a2 := a.2.2 m hm
                rcases (show z71.toInt = 0 ∨ z71.toInt = 1 ∨ z71.toInt = 2 from by omega) with hh | hh | hh
                · have q := ntz_k (P := 1048576) (k := 20) (m := m) (by decide) (by omega) a2 a1
                  omega
                · have q := ntz_k (P := 2097152) (k := 21) (m := m) (by decide) (by omega) a2 a1
                  omega
                · have q := ntz_k (P := 4194304) (k := 22) (m := m) (by decide) (by omega) a2 a1
                  omega))⟩, by rw [ht]; exact hP, va_K.moved hW.alike hK, hD⟩, hS.F ht⟩) hS.2.2 dJ6_numberOfTrailingZeros_0f7a4_79
          · skip
            have f73 : 4 < z68.toInt := b_nle rfl (by decide) c69
            refine lv_iinc (v := 23) (lv' := [(1, .int 23), (0, .int z68)]) hx hb dJ6_numberOfTrailingZeros_0f7a4_67 hl (k := 1) rfl (by decide) (by decide) rfl (fun ls hl => ?_)
            refine lv_iload_n hx hb dJ6_numberOfTrailingZeros_0f7a4_70 rfl (lv_at hl 1 rfl) ?_
            refine lv_iconst (v := 2) hx hb dJ6_numberOfTrailingZeros_0f7a4_71 (by decide) ?_
            refine lv_iushr hx hb dJ6_numberOfTrailingZeros_0f7a4_72 rfl ?_
            refine lv_topi (fun z74 ez74 => ?_)
            have hz74 : z74.toInt = z68.toInt / 4 := ushr_l (P := 4) (k := 2) ez74 (by first | omega | ((try (have i_hz3 := Imp.go hz3 (by omega))); omega)) (by decide) (by decide) (by decide)
            refine lv_istore_n (lv' := [(0, .int z74), (1, .int 23)]) hx hb dJ6_numberOfTrailingZeros_0f7a4_73 rfl hl (by decide) rfl (fun ls hl => ?_)
            refine lv_iload_n hx hb dJ6_numberOfTrailingZeros_0f7a4_74 rfl (lv_at hl 1 rfl) ?_
            refine lv_iload_n hx hb dJ6_numberOfTrailingZeros_0f7a4_75 rfl (lv_at hl 0 rfl) ?_
            refine lv_iconst (v := 1) hx hb dJ6_numberOfTrailingZeros_0f7a4_76 (by decide) ?_
            refine lv_iushr hx hb dJ6_numberOfTrailingZeros_0f7a4_77 rfl ?_
            refine lv_topi (fun z75 ez75 => ?_)
            have hz75 : z75.toInt = z74.toInt / 2 := ushr_l (P := 2) (k := 1) ez75 (by first | omega | ((try (have i_hz3 := Imp.go hz3 (by omega))); omega)) (by decide) (by decide) (by decide)
            refine lv_iadd hx hb dJ6_numberOfTrailingZeros_0f7a4_78 ?_
            refine lv_topi (fun z76 ez76 => ?_)
            have hz76 : z76.toInt = 23 + z75.toInt := i_add ez76 (by decide) rfl (by omega)
            exact W.iret (v := z76) hx hb hr (fun t ht hW => ⟨⟨z76, (), rfl, ⟨(show 0 ≤ z76.toInt ∧ z76.toInt ≤ 32 from by first | omega | ((try (have i_hz3 := Imp.go hz3 (by omega))); omega)), (fun m h0 hm => (show z76.toInt < (m : Int) from by
                have a := nty h0
                have a1 := a.2.1
                have a2 := a.2.2 m hm
                rcases (show z75.toInt = 0 ∨ z75.toInt = 1 ∨ z75.toInt = 2 from by omega) with hh | hh | hh
                · have q := ntz_k (P := 4194304) (k := 22) (m := m) (by decide) (by omega) a2 a1
                  omega
                · have q := ntz_k (P := 8388608) (k := 23) (m := m) (by decide) (by omega) a2 a1
                  omega
                · have q := ntz_k (P := 16777216) (k := 24) (m := m) (by decide) (by omega) a2 a1
                  omega))⟩, by rw [ht]; exact hP, va_K.moved hW.alike hK, hD⟩, hS.F ht⟩) hS.2.2 dJ6_numberOfTrailingZeros_0f7a4_79
      · skip
        have f77 : 256 < z54.toInt := b_nle rfl (by decide) c55
        refine lv_iinc (v := 25) (lv' := [(1, .int 25), (0, .int z54)]) hx hb dJ6_numberOfTrailingZeros_0f7a4_41 hl (k := 1) rfl (by decide) (by decide) rfl (fun ls hl => ?_)
        refine lv_iload_n hx hb dJ6_numberOfTrailingZeros_0f7a4_44 rfl (lv_at hl 1 rfl) ?_
        refine lv_bipush (v := 8) hx hb dJ6_numberOfTrailingZeros_0f7a4_45 (by decide) ?_
        refine lv_iushr hx hb dJ6_numberOfTrailingZeros_0f7a4_47 rfl ?_
        refine lv_topi (fun z78 ez78 => ?_)
        have hz78 : z78.toInt = z54.toInt / 256 := ushr_l (P := 256) (k := 8) ez78 (by first | omega | ((try (have i_hz3 := Imp.go hz3 (by omega))); omega)) (by decide) (by decide) (by decide)
        refine lv_istore_n (lv' := [(0, .int z78), (1, .int 25)]) hx hb dJ6_numberOfTrailingZeros_0f7a4_48 rfl hl (by decide) rfl (fun ls hl => ?_)
        refine lv_iload_n hx hb dJ6_numberOfTrailingZeros_0f7a4_49 rfl (lv_at hl 0 rfl) ?_
        refine lv_bipush (v := 16) hx hb dJ6_numberOfTrailingZeros_0f7a4_50 (by decide) ?_
        refine lv_icmp_le (tgt := 62) hx hb dJ6_numberOfTrailingZeros_0f7a4_52 (by decide) (fun c79 => ?_) (fun c79 => ?_)
        · skip
          have f80 : z78.toInt ≤ 16 := b_le rfl (by decide) c79
          refine lv_iload_n hx hb dJ6_numberOfTrailingZeros_0f7a4_62 rfl (lv_at hl 0 rfl) ?_
          refine lv_iconst (v := 4) hx hb dJ6_numberOfTrailingZeros_0f7a4_63 (by decide) ?_
          refine lv_icmp_le (tgt := 74) hx hb dJ6_numberOfTrailingZeros_0f7a4_64 (by decide) (fun c81 => ?_) (fun c81 => ?_)
          · skip
            have f82 : z78.toInt ≤ 4 := b_le rfl (by decide) c81
            refine lv_iload_n hx hb dJ6_numberOfTrailingZeros_0f7a4_74 rfl (lv_at hl 1 rfl) ?_
            refine lv_iload_n hx hb dJ6_numberOfTrailingZeros_0f7a4_75 rfl (lv_at hl 0 rfl) ?_
            refine lv_iconst (v := 1) hx hb dJ6_numberOfTrailingZeros_0f7a4_76 (by decide) ?_
            refine lv_iushr hx hb dJ6_numberOfTrailingZeros_0f7a4_77 rfl ?_
            refine lv_topi (fun z83 ez83 => ?_)
            have hz83 : z83.toInt = z78.toInt / 2 := ushr_l (P := 2) (k := 1) ez83 (by first | omega | ((try (have i_hz3 := Imp.go hz3 (by omega))); omega)) (by decide) (by decide) (by decide)
            refine lv_iadd hx hb dJ6_numberOfTrailingZeros_0f7a4_78 ?_
            refine lv_topi (fun z84 ez84 => ?_)
            have hz84 : z84.toInt = 25 + z83.toInt := i_add ez84 (by decide) rfl (by omega)
            exact W.iret (v := z84) hx hb hr (fun t ht hW => ⟨⟨z84, (), rfl, ⟨(show 0 ≤ z84.toInt ∧ z84.toInt ≤ 32 from by first | omega | ((try (have i_hz3 := Imp.go hz3 (by omega))); omega)), (fun m h0 hm => (show z84.toInt < (m : Int) from by
                have a := nty h0
                have a1 := a.2.1
                have a2 := a.2.2 m hm
                rcases (show z83.toInt = 0 ∨ z83.toInt = 1 ∨ z83.toInt = 2 from by omega) with hh | hh | hh
                · have q := ntz_k (P := 16777216) (k := 24) (m := m) (by decide) (by omega) a2 a1
                  omega
                · have q := ntz_k (P := 33554432) (k := 25) (m := m) (by decide) (by omega) a2 a1
                  omega
                · have q := ntz_k (P := 67108864) (k := 26) (m := m) (by decide) (by omega) a2 a1
                  omega))⟩, by rw [ht]; exact hP, va_K.moved hW.alike hK, hD⟩, hS.F ht⟩) hS.2.2 dJ6_numberOfTrailingZeros_0f7a4_79
          · skip
            have f85 : 4 < z78.toInt := b_nle rfl (by decide) c81
            refine lv_iinc (v := 27) (lv' := [(1, .int 27), (0, .int z78)]) hx hb dJ6_numberOfTrailingZeros_0f7a4_67 hl (k := 1) rfl (by decide) (by decide) rfl (fun ls hl => ?_)
            refine lv_iload_n hx hb dJ6_numberOfTrailingZeros_0f7a4_70 rfl (lv_at hl 1 rfl) ?_
            refine lv_iconst (v := 2) hx hb dJ6_numberOfTrailingZeros_0f7a4_71 (by decide) ?_
            refine lv_iushr hx hb dJ6_numberOfTrailingZeros_0f7a4_72 rfl ?_
            refine lv_topi (fun z86 ez86 => ?_)
            have hz86 : z86.toInt = z78.toInt / 4 := ushr_l (P := 4) (k := 2) ez86 (by first | omega | ((try (have i_hz3 := Imp.go hz3 (by omega))); omega)) (by decide) (by decide) (by decide)
            refine lv_istore_n (lv' := [(0, .int z86), (1, .int 27)]) hx hb dJ6_numberOfTrailingZeros_0f7a4_73 rfl hl (by decide) rfl (fun ls hl => ?_)
            refine lv_iload_n hx hb dJ6_numberOfTrailingZeros_0f7a4_74 rfl (lv_at hl 1 rfl) ?_
            refine lv_iload_n hx hb dJ6_numberOfTrailingZeros_0f7a4_75 rfl (lv_at hl 0 rfl) ?_
            refine lv_iconst (v := 1) hx hb dJ6_numberOfTrailingZeros_0f7a4_76 (by decide) ?_
            refine lv_iushr hx hb dJ6_numberOfTrailingZeros_0f7a4_77 rfl ?_
            refine lv_topi (fun z87 ez87 => ?_)
            have hz87 : z87.toInt = z86.toInt / 2 := ushr_l (P := 2) (k := 1) ez87 (by first | omega | ((try (have i_hz3 := Imp.go hz3 (by omega))); omega)) (by decide) (by decide) (by decide)
            refine lv_iadd hx hb dJ6_numberOfTrailingZeros_0f7a4_78 ?_
            refine lv_topi (fun z88 ez88 => ?_)
            have hz88 : z88.toInt = 27 + z87.toInt := i_add ez88 (by decide) rfl (by omega)
            exact W.iret (v := z88) hx hb hr (fun t ht hW => ⟨⟨z88, (), rfl, ⟨(show 0 ≤ z88.toInt ∧ z88.toInt ≤ 32 from by first | omega | ((try (have i_hz3 := Imp.go hz3 (by omega))); omega)), (fun m h0 hm => (show z88.toInt < (m : Int) from by
                have a := nty h0
                have a1 := a.2.1
                have a2 := a.2.2 m hm
                rcases (show z87.toInt = 0 ∨ z87.toInt = 1 ∨ z87.toInt = 2 from by omega) with hh | hh | hh
                · have q := ntz_k (P := 67108864) (k := 26) (m := m) (by decide) (by omega) a2 a1
                  omega
                · have q := ntz_k (P := 134217728) (k := 27) (m := m) (by decide) (by omega) a2 a1
                  omega
                · have q := ntz_k (P := 268435456) (k := 28) (m := m) (by decide) (by omega) a2 a1
                  omega))⟩, by rw [ht]; exact hP, va_K.moved hW.alike hK, hD⟩, hS.F ht⟩) hS.2.2 dJ6_numberOfTrailingZeros_0f7a4_79
        · skip
          have f89 : 16 < z78.toInt := b_nle rfl (by decide) c79
          refine lv_iinc (v := 29) (lv' := [(1, .int 29), (0, .int z78)]) hx hb dJ6_numberOfTrailingZeros_0f7a4_55 hl (k := 1) rfl (by decide) (by decide) rfl (fun ls hl => ?_)
          refine lv_iload_n hx hb dJ6_numberOfTrailingZeros_0f7a4_58 rfl (lv_at hl 1 rfl) ?_
          refine lv_iconst (v := 4) hx hb dJ6_numberOfTrailingZeros_0f7a4_59 (by decide) ?_
          refine lv_iushr hx hb dJ6_numberOfTrailingZeros_0f7a4_60 rfl ?_
          refine lv_topi (fun z90 ez90 => ?_)
          have hz90 : z90.toInt = z78.toInt / 16 := ushr_l (P := 16) (k := 4) ez90 (by first | omega | ((try (have i_hz3 := Imp.go hz3 (by omega))); omega)) (by decide) (by decide) (by decide)
          refine lv_istore_n (lv' := [(0, .int z90), (1, .int 29)]) hx hb dJ6_numberOfTrailingZeros_0f7a4_61 rfl hl (by decide) rfl (fun ls hl => ?_)
          refine lv_iload_n hx hb dJ6_numberOfTrailingZeros_0f7a4_62 rfl (lv_at hl 0 rfl) ?_
          refine lv_iconst (v := 4) hx hb dJ6_numberOfTrailingZeros_0f7a4_63 (by decide) ?_
          refine lv_icmp_le (tgt := 74) hx hb dJ6_numberOfTrailingZeros_0f7a4_64 (by decide) (fun c91 => ?_) (fun c91 => ?_)
          · skip
            have f92 : z90.toInt ≤ 4 := b_le rfl (by decide) c91
            refine lv_iload_n hx hb dJ6_numberOfTrailingZeros_0f7a4_74 rfl (lv_at hl 1 rfl) ?_
            refine lv_iload_n hx hb dJ6_numberOfTrailingZeros_0f7a4_75 rfl (lv_at hl 0 rfl) ?_
            refine lv_iconst (v := 1) hx hb dJ6_numberOfTrailingZeros_0f7a4_76 (by decide) ?_
            refine lv_iushr hx hb dJ6_numberOfTrailingZeros_0f7a4_77 rfl ?_
            refine lv_topi (fun z93 ez93 => ?_)
            have hz93 : z93.toInt = z90.toInt / 2 := ushr_l (P := 2) (k := 1) ez93 (by first | omega | ((try (have i_hz3 := Imp.go hz3 (by omega))); omega)) (by decide) (by decide) (by decide)
            refine lv_iadd hx hb dJ6_numberOfTrailingZeros_0f7a4_78 ?_
            refine lv_topi (fun z94 ez94 => ?_)
            have hz94 : z94.toInt = 29 + z93.toInt := i_add ez94 (by decide) rfl (by omega)
            exact W.iret (v := z94) hx hb hr (fun t ht hW => ⟨⟨z94, (), rfl, ⟨(show 0 ≤ z94.toInt ∧ z94.toInt ≤ 32 from by first | omega | ((try (have i_hz3 := Imp.go hz3 (by omega))); omega)), (fun m h0 hm => (show z94.toInt < (m : Int) from by
                have a := nty h0
                have a1 := a.2.1
                have a2 := a.2.2 m hm
                rcases (show z93.toInt = 0 ∨ z93.toInt = 1 ∨ z93.toInt = 2 from by omega) with hh | hh | hh
                · have q := ntz_k (P := 268435456) (k := 28) (m := m) (by decide) (by omega) a2 a1
                  omega
                · have q := ntz_k (P := 536870912) (k := 29) (m := m) (by decide) (by omega) a2 a1
                  omega
                · have q := ntz_k (P := 1073741824) (k := 30) (m := m) (by decide) (by omega) a2 a1
                  omega))⟩, by rw [ht]; exact hP, va_K.moved hW.alike hK, hD⟩, hS.F ht⟩) hS.2.2 dJ6_numberOfTrailingZeros_0f7a4_79
          · skip
            have f95 : 4 < z90.toInt := b_nle rfl (by decide) c91
            refine lv_iinc (v := 31) (lv' := [(1, .int 31), (0, .int z90)]) hx hb dJ6_numberOfTrailingZeros_0f7a4_67 hl (k := 1) rfl (by decide) (by decide) rfl (fun ls hl => ?_)
            refine lv_iload_n hx hb dJ6_numberOfTrailingZeros_0f7a4_70 rfl (lv_at hl 1 rfl) ?_
            refine lv_iconst (v := 2) hx hb dJ6_numberOfTrailingZeros_0f7a4_71 (by decide) ?_
            refine lv_iushr hx hb dJ6_numberOfTrailingZeros_0f7a4_72 rfl ?_
            refine lv_topi (fun z96 ez96 => ?_)
            have hz96 : z96.toInt = z90.toInt / 4 := ushr_l (P := 4) (k := 2) ez96 (by first | omega | ((try (have i_hz3 := Imp.go hz3 (by omega))); omega)) (by decide) (by decide) (by decide)
            refine lv_istore_n (lv' := [(0, .int z96), (1, .int 31)]) hx hb dJ6_numberOfTrailingZeros_0f7a4_73 rfl hl (by decide) rfl (fun ls hl => ?_)
            refine lv_iload_n hx hb dJ6_numberOfTrailingZeros_0f7a4_74 rfl (lv_at hl 1 rfl) ?_
            refine lv_iload_n hx hb dJ6_numberOfTrailingZeros_0f7a4_75 rfl (lv_at hl 0 rfl) ?_
            refine lv_iconst (v := 1) hx hb dJ6_numberOfTrailingZeros_0f7a4_76 (by decide) ?_
            refine lv_iushr hx hb dJ6_numberOfTrailingZeros_0f7a4_77 rfl ?_
            refine lv_topi (fun z97 ez97 => ?_)
            have hz97 : z97.toInt = z96.toInt / 2 := ushr_l (P := 2) (k := 1) ez97 (by first | omega | ((try (have i_hz3 := Imp.go hz3 (by omega))); omega)) (by decide) (by decide) (by decide)
            refine lv_iadd hx hb dJ6_numberOfTrailingZeros_0f7a4_78 ?_
            refine lv_topi (fun z98 ez98 => ?_)
            have hz98 : z98.toInt = 31 + z97.toInt := i_add ez98 (by decide) rfl (by omega)
            exact W.iret (v := z98) hx hb hr (fun t ht hW => ⟨⟨z98, (), rfl, ⟨(show 0 ≤ z98.toInt ∧ z98.toInt ≤ 32 from by first | omega | ((try (have i_hz3 := Imp.go hz3 (by omega))); omega)), (fun m h0 hm => (show z98.toInt < (m : Int) from by
                have a := nty h0
                have a1 := a.2.1
                have a2 := a.2.2 m hm
                rcases (show z97.toInt = 0 ∨ z97.toInt = 1 ∨ z97.toInt = 2 from by omega) with hh | hh | hh
                · have q := ntz_k (P := 1073741824) (k := 30) (m := m) (by decide) (by omega) a2 a1
                  omega
                · have q := ntz_k (P := 2147483648) (k := 31) (m := m) (by decide) (by omega) a2 a1
                  omega
                · have q := ntz_k (P := 4294967296) (k := 32) (m := m) (by decide) (by omega) a2 a1
                  omega))⟩, by rw [ht]; exact hP, va_K.moved hW.alike hK, hD⟩, hS.F ht⟩) hS.2.2 dJ6_numberOfTrailingZeros_0f7a4_79
  · skip
    have f99 : z4.toInt ≤ 0 := b_nlt (by decide) rfl c5
    refine lv_iload_n hx hb dJ6_numberOfTrailingZeros_0f7a4_12 rfl (lv_at hl 0 rfl) ?_
    refine lv_bipush (v := 32) hx hb dJ6_numberOfTrailingZeros_0f7a4_13 (by decide) ?_
    refine lv_iand hx hb dJ6_numberOfTrailingZeros_0f7a4_15 ?_
    refine lv_topi (fun z100 ez100 => ?_)
    have hq1 : 0 ≤ z100.toInt ∧ z100.toInt ≤ 32 := and_m ez100 (by decide)
    have hq2 : 0 ≤ z4.toInt → 0 ≤ z100.toInt ∧ z100.toInt ≤ z4.toInt := fun h => and_left ez100 h
    exact W.iret (v := z100) hx hb hr (fun t ht hW => ⟨⟨z100, (), rfl, ⟨(show 0 ≤ z100.toInt ∧ z100.toInt ≤ 32 from by first | omega | ((try (have i_hz3 := Imp.go hz3 (by omega))); omega)), (fun m h0 hm => (show z100.toInt < (m : Int) from by have a := nty h0; have a1 := a.1; have b := hq2 a1; have c := ntz_0 h0 hm; omega))⟩, by rw [ht]; exact hP, va_K.moved hW.alike hK, hD⟩, hS.F ht⟩) hS.2.2 dJ6_numberOfTrailingZeros_0f7a4_16
abbrev r_x_candidates2 : Room := { frames := 1, cells := 0, slots := 0, locals := 22 }
abbrev q_x_candidates2 (D : va_G) (ks : KS) (ad : Nat → Nat) (kk : Nat → ClassId) (V : Vf) (L : Lf) (Z : XZ) (p0 : Int32) (p1 : Int32) (b : Nat) (A : Nat → Prop) : Array Value → State → Outcome → State → Prop := va_Qi (fun (r : Int32) (_ : Unit) => (0 ≤ r.toInt ∧ r.toInt ≤ 16777215)) (fun _ t => gq D A (xw ad kk V L Z) (xty kk Z) t) A
set_option maxHeartbeats 4000000 in
set_option maxRecDepth 100000 in
theorem x_candidates2 (l : Launch) (D : va_G) (ks : KS) (sz : Nat) (ad : Nat → Nat) (kk : Nat → ClassId) (V : Vf) (L : Lf) (Z : XZ) (p0 : Int32) (p1 : Int32) (b : Nat) (hMV : rgd bX V) (rg_p0 : 0 ≤ p0.toInt ∧ p0.toInt ≤ 23) (rg_p1 : 0 ≤ p1.toInt ∧ p1.toInt ≤ 7) (hb2 : b < 2)  : Met l yX0_candidates (Cond.code yX0_candidates cX0_candidates 12 (some .int) :: GW) r_x_candidates2 (va_Pc [.ref (ad (38 + b)), .int p0, .int p1] (gp D ks (xw ad kk V L Z) (xty kk Z) sz)) (q_x_candidates2 D ks ad kk V L Z p0 p1 b (va_A (xw ad kk V L Z) sz)) 0 0 (va_A (xw ad kk V L Z) sz) := by
  refine g_met (q_x_candidates2 D ks ad kk V L Z p0 p1 b) (by decide) (Nat.le_of_ble_eq_true rfl) ?_
  intro p e s m below meth c A ls H locs hx hb hr hml hown hg hlocks hin hnw hgk hP hK hD hS hA hl
  have hown : s.vm.findClass RX0 = some m.cls := hown
  have hl : lv_has ls 12 [(0, .ref (ad (38 + b))), (1, .int p0), (2, .int p1)] := hl
  have hP : va_P D vwCl (xw ad kk V L Z) H := hP
  have hD : va_D A (xw ad kk V L Z) := hD
  have hK : va_K D vwCl (xty kk Z) s := hK
  refine lv_aload_n hx hb dX0_candidates_0 rfl (lv_at hl 0 rfl) ?_
  refine va_get (D := D) (ci := 0) (v := .ref (ad (64 + b))) (fs := (xfBook ad V b)) (C := RX0) (T := TX0) (N := 13) hx hb hg inX0 hown hK hP (38 + b) (xgBook hb2) rfl 7 (by decide) (hg _ w614) (fun _ h9 => h9) rfl dX0_candidates_1 ?_
  refine lv_iload_n hx hb dX0_candidates_4 rfl (lv_at hl 1 rfl) ?_
  have il1 : b < 2 := by omega
  refine va_aldq (D := D) (i := p0) hx hb hK hP (64 + b) (57 + b) (xgcomps il1) (xtcomps il1) (i_in (a := p0.toInt) rfl (by omega)) dX0_candidates_5 ?_
  have kc2 := i_clamp (x := p0) rfl (by omega)
  refine g_topv (v := .ref (ad (72 + (24 * b + (Int32.toNatClampNeg p0))))) (congrArg va_rf (if_pos (by omega))) ?_
  have il3 : (24 * b + (Int32.toNatClampNeg p0)) < 48 := by omega
  refine lv_astore_n (lv' := [(3, .ref (ad (72 + (24 * b + (Int32.toNatClampNeg p0))))), (0, .ref (ad (38 + b))), (1, .int p0), (2, .int p1)]) hx hb dX0_candidates_6 rfl hl (by decide) rfl (fun ls hl => ?_)
  refine lv_aload_n hx hb dX0_candidates_7 rfl (lv_at hl 0 rfl) ?_
  refine va_getN (D := D) (ci := 3) (v := .ref (ad (216 + (24 * b + (Int32.toNatClampNeg p0))))) (fs := (xfComp ad V (24 * b + (Int32.toNatClampNeg p0)))) (C := RX3) (T := TX3) (N := 13) hx hb hg inX3 hown hK hP (72 + (24 * b + (Int32.toNatClampNeg p0))) (xgComp il3) rfl 2 (by decide) (hnw.use 505 n505 rfl) (fun _ h9 => h9) rfl dX0_candidates_8 ?_
  refine lv_iload_n hx hb dX0_candidates_11 rfl (lv_at hl 3 rfl) ?_
  have il4 : (24 * b + (Int32.toNatClampNeg p0)) < 48 := by omega
  refine va_iald (D := D) (i := p1) hx hb hK hP (216 + (24 * b + (Int32.toNatClampNeg p0))) (209 + (24 * b + (Int32.toNatClampNeg p0))) (xgneedKinds il4) (xtneedKinds il4) (i_in (a := p1.toInt) rfl (by omega)) dX0_candidates_12 ?_
  have kc5 := i_clamp (x := p1) rfl (by omega)
  refine g_top (v := V 60 (8 * (24 * b + (Int32.toNatClampNeg p0)) + (Int32.toNatClampNeg p1))) (if_pos (by omega)) ?_
  refine lv_istore (lv' := [(4, .int (V 60 (8 * (24 * b + (Int32.toNatClampNeg p0)) + (Int32.toNatClampNeg p1)))), (3, .ref (ad (72 + (24 * b + (Int32.toNatClampNeg p0))))), (0, .ref (ad (38 + b))), (1, .int p0), (2, .int p1)]) hx hb dX0_candidates_13 hl (by decide) rfl (fun ls hl => ?_)
  refine lv_aload_n hx hb dX0_candidates_15 rfl (lv_at hl 1 rfl) ?_
  refine va_getN (D := D) (ci := 3) (v := .ref (ad (120 + (24 * b + (Int32.toNatClampNeg p0))))) (fs := (xfComp ad V (24 * b + (Int32.toNatClampNeg p0)))) (C := RX3) (T := TX3) (N := 13) hx hb hg inX3 hown hK hP (72 + (24 * b + (Int32.toNatClampNeg p0))) (xgComp il3) rfl 0 (by decide) (hnw.use 500 n500 rfl) (fun _ h9 => h9) rfl dX0_candidates_16 ?_
  refine lv_iload_n hx hb dX0_candidates_19 rfl (lv_at hl 4 rfl) ?_
  have il6 : (24 * b + (Int32.toNatClampNeg p0)) < 48 := by omega
  refine va_iald (D := D) (i := p1) hx hb hK hP (120 + (24 * b + (Int32.toNatClampNeg p0))) (113 + (24 * b + (Int32.toNatClampNeg p0))) (xgneedTypes il6) (xtneedTypes il6) (i_in (a := p1.toInt) rfl (by omega)) dX0_candidates_20 ?_
  refine g_top (v := V 58 (8 * (24 * b + (Int32.toNatClampNeg p0)) + (Int32.toNatClampNeg p1))) (if_pos (by omega)) ?_
  refine lv_istore (lv' := [(5, .int (V 58 (8 * (24 * b + (Int32.toNatClampNeg p0)) + (Int32.toNatClampNeg p1)))), (4, .int (V 60 (8 * (24 * b + (Int32.toNatClampNeg p0)) + (Int32.toNatClampNeg p1)))), (3, .ref (ad (72 + (24 * b + (Int32.toNatClampNeg p0))))), (0, .ref (ad (38 + b))), (1, .int p0), (2, .int p1)]) hx hb dX0_candidates_21 hl (by decide) rfl (fun ls hl => ?_)
  refine lv_aload_n hx hb dX0_candidates_23 rfl (lv_at hl 2 rfl) ?_
  refine va_getN (D := D) (ci := 3) (v := .ref (ad (168 + (24 * b + (Int32.toNatClampNeg p0))))) (fs := (xfComp ad V (24 * b + (Int32.toNatClampNeg p0)))) (C := RX3) (T := TX3) (N := 13) hx hb hg inX3 hown hK hP (72 + (24 * b + (Int32.toNatClampNeg p0))) (xgComp il3) rfl 1 (by decide) (hnw.use 502 n502 rfl) (fun _ h9 => h9) rfl dX0_candidates_24 ?_
  refine lv_iload_n hx hb dX0_candidates_27 rfl (lv_at hl 5 rfl) ?_
  have il7 : (24 * b + (Int32.toNatClampNeg p0)) < 48 := by omega
  refine va_iald (D := D) (i := p1) hx hb hK hP (168 + (24 * b + (Int32.toNatClampNeg p0))) (161 + (24 * b + (Int32.toNatClampNeg p0))) (xgneedWords il7) (xtneedWords il7) (i_in (a := p1.toInt) rfl (by omega)) dX0_candidates_28 ?_
  refine g_top (v := V 59 (8 * (24 * b + (Int32.toNatClampNeg p0)) + (Int32.toNatClampNeg p1))) (if_pos (by omega)) ?_
  refine lv_istore (lv' := [(6, .int (V 59 (8 * (24 * b + (Int32.toNatClampNeg p0)) + (Int32.toNatClampNeg p1)))), (5, .int (V 58 (8 * (24 * b + (Int32.toNatClampNeg p0)) + (Int32.toNatClampNeg p1)))), (4, .int (V 60 (8 * (24 * b + (Int32.toNatClampNeg p0)) + (Int32.toNatClampNeg p1)))), (3, .ref (ad (72 + (24 * b + (Int32.toNatClampNeg p0))))), (0, .ref (ad (38 + b))), (1, .int p0), (2, .int p1)]) hx hb dX0_candidates_29 hl (by decide) rfl (fun ls hl => ?_)
  refine lv_iconst (v := 0) hx hb dX0_candidates_31 (by decide) ?_
  refine lv_istore (lv' := [(7, .int 0), (6, .int (V 59 (8 * (24 * b + (Int32.toNatClampNeg p0)) + (Int32.toNatClampNeg p1)))), (5, .int (V 58 (8 * (24 * b + (Int32.toNatClampNeg p0)) + (Int32.toNatClampNeg p1)))), (4, .int (V 60 (8 * (24 * b + (Int32.toNatClampNeg p0)) + (Int32.toNatClampNeg p1)))), (3, .ref (ad (72 + (24 * b + (Int32.toNatClampNeg p0))))), (0, .ref (ad (38 + b))), (1, .int p0), (2, .int p1)]) hx hb dX0_candidates_32 hl (by decide) rfl (fun ls hl => ?_)
  refine lv_iconst (v := 0) hx hb dX0_candidates_34 (by decide) ?_
  refine lv_istore (lv' := [(8, .int 0), (7, .int 0), (6, .int (V 59 (8 * (24 * b + (Int32.toNatClampNeg p0)) + (Int32.toNatClampNeg p1)))), (5, .int (V 58 (8 * (24 * b + (Int32.toNatClampNeg p0)) + (Int32.toNatClampNeg p1)))), (4, .int (V 60 (8 * (24 * b + (Int32.toNatClampNeg p0)) + (Int32.toNatClampNeg p1)))), (3, .ref (ad (72 + (24 * b + (Int32.toNatClampNeg p0))))), (0, .ref (ad (38 + b))), (1, .int p0), (2, .int p1)]) hx hb dX0_candidates_35 hl (by decide) rfl (fun ls hl => ?_)
  refine lv_iconst (v := 0) hx hb dX0_candidates_37 (by decide) ?_
  refine lv_istore (lv' := [(9, .int 0), (8, .int 0), (7, .int 0), (6, .int (V 59 (8 * (24 * b + (Int32.toNatClampNeg p0)) + (Int32.toNatClampNeg p1)))), (5, .int (V 58 (8 * (24 * b + (Int32.toNatClampNeg p0)) + (Int32.toNatClampNeg p1)))), (4, .int (V 60 (8 * (24 * b + (Int32.toNatClampNeg p0)) + (Int32.toNatClampNeg p1)))), (3, .ref (ad (72 + (24 * b + (Int32.toNatClampNeg p0))))), (0, .ref (ad (38 + b))), (1, .int p0), (2, .int p1)]) hx hb dX0_candidates_38 hl (by decide) rfl (fun ls hl => ?_)
  have lp11 : ∀ (fulp11 : Nat) (y8 : Int32) (y9 : Int32) (y10 : Int32) (H : Heap) (locs : List Loc) (ls : Array Slot), 0 ≤ y8.toInt ∧ y8.toInt ≤ 24 → 0 ≤ y10.toInt ∧ y10.toInt ≤ 16777215 → 24 - y8.toInt < (fulp11 : Int) → va_P D vwCl (xw ad kk V L Z) H → va_D A (xw ad kk V L Z) → va_S A s.heap H locs → lv_has ls 12 [(9, .int y8), (8, .int y9), (7, .int y10), (6, .int (V 59 (8 * (24 * b + (Int32.toNatClampNeg p0)) + (Int32.toNatClampNeg p1)))), (5, .int (V 58 (8 * (24 * b + (Int32.toNatClampNeg p0)) + (Int32.toNatClampNeg p1)))), (4, .int (V 60 (8 * (24 * b + (Int32.toNatClampNeg p0)) + (Int32.toNatClampNeg p1)))), (3, .ref (ad (72 + (24 * b + (Int32.toNatClampNeg p0))))), (0, .ref (ad (38 + b))), (1, .int p0), (2, .int p1)] → W p l e r_x_candidates2 s m ([.ref (ad (38 + b)), .int p0, .int p1] : List Value).toArray below meth c H locs 0 0 (MQ below (q_x_candidates2 D ks ad kk V L Z p0 p1 b A) ([.ref (ad (38 + b)), .int p0, .int p1] : List Value).toArray s 0 0 A) (F0 m 40 ls []) := by
    intro fulp11
    induction fulp11 with
    | zero =>
      intro y8 y9 y10 H locs ls klp11_0 klp11_1 hn  hP hD hS hl
      exfalso; omega
    | succ fulp11 ihlp11 =>
      intro y8 y9 y10 H locs ls klp11_0 klp11_1 hn  hP hD hS hl
      refine lv_iload hx hb dX0_candidates_40 (lv_at hl 0 rfl) ?_
      refine lv_aload_n hx hb dX0_candidates_42 rfl (lv_at hl 7 rfl) ?_
      refine va_get (D := D) (ci := 0) (v := .ref (ad (40 + (5 * b + 2)))) (fs := (xfBook ad V b)) (C := RX0) (T := TX0) (N := 13) hx hb hg inX0 hown hK hP (38 + b) (xgBook hb2) rfl 2 (by decide) (hg _ w599) (fun _ h9 => h9) rfl dX0_candidates_43 ?_
      have il12 : (5 * b + 2) < 10 := by omega
      refine va_getN (D := D) (ci := 6) (v := .int (V 43 (5 * b + 2))) (fs := (xfNames ad V (5 * b + 2))) (C := RX6) (T := TX6) (N := 2) hx hb hg inX6 hown hK hP (40 + (5 * b + 2)) (xgNames il12) rfl 1 (by decide) (hnw.use 481 n481 rfl) (fun _ h9 => h9) rfl dX0_candidates_46 ?_
      have r13 : 0 ≤ ((V 43 (5 * b + 2))).toInt ∧ ((V 43 (5 * b + 2))).toInt ≤ ((xcap (5 * b + 2) : Nat) : Int) := hMV 43 (5 * b + 2)
      have r14 : xcap (5 * b + 2) = 24 := xcap_2
      refine lv_icmp_ge (tgt := 171) hx hb dX0_candidates_49 (by decide) (fun c15 => ?_) (fun c15 => ?_)
      · skip
        have f16 : ((V 43 (5 * b + 2))).toInt ≤ y8.toInt := b_le rfl rfl c15
        refine lv_iload hx hb dX0_candidates_171 (lv_at hl 2 rfl) ?_
        exact W.iret (v := y10) hx hb hr (fun t ht hW => ⟨⟨y10, (), rfl, (show 0 ≤ y10.toInt ∧ y10.toInt ≤ 16777215 from by omega), by rw [ht]; exact hP, va_K.moved hW.alike hK, hD⟩, hS.F ht⟩) hS.2.2 dX0_candidates_173
      · skip
        have f17 : y8.toInt < ((V 43 (5 * b + 2))).toInt := b_nle rfl rfl c15
        refine lv_aload_n hx hb dX0_candidates_52 rfl (lv_at hl 7 rfl) ?_
        refine va_get (D := D) (ci := 0) (v := .ref (ad (64 + b))) (fs := (xfBook ad V b)) (C := RX0) (T := TX0) (N := 13) hx hb hg inX0 hown hK hP (38 + b) (xgBook hb2) rfl 7 (by decide) (hg _ w614) (fun _ h9 => h9) rfl dX0_candidates_53 ?_
        refine lv_iload hx hb dX0_candidates_56 (lv_at hl 0 rfl) ?_
        refine va_aldq (D := D) (i := y8) hx hb hK hP (64 + b) (57 + b) (xgcomps il1) (xtcomps il1) (i_in (a := y8.toInt) rfl (by omega)) dX0_candidates_58 ?_
        have kc18 := i_clamp (x := y8) rfl (by omega)
        refine g_topv (v := .ref (ad (72 + (24 * b + (Int32.toNatClampNeg y8))))) (congrArg va_rf (if_pos (by omega))) ?_
        have il19 : (24 * b + (Int32.toNatClampNeg y8)) < 48 := by omega
        refine lv_astore (lv' := [(10, .ref (ad (72 + (24 * b + (Int32.toNatClampNeg y8))))), (9, .int y8), (8, .int y9), (7, .int y10), (6, .int (V 59 (8 * (24 * b + (Int32.toNatClampNeg p0)) + (Int32.toNatClampNeg p1)))), (5, .int (V 58 (8 * (24 * b + (Int32.toNatClampNeg p0)) + (Int32.toNatClampNeg p1)))), (4, .int (V 60 (8 * (24 * b + (Int32.toNatClampNeg p0)) + (Int32.toNatClampNeg p1)))), (3, .ref (ad (72 + (24 * b + (Int32.toNatClampNeg p0))))), (0, .ref (ad (38 + b))), (1, .int p0), (2, .int p1)]) hx hb dX0_candidates_59 hl (by decide) rfl (fun ls hl => ?_)
        refine lv_iload hx hb dX0_candidates_61 (lv_at hl 4 rfl) ?_
        refine lv_iconst (v := (-1)) hx hb dX0_candidates_63 (by decide) ?_
        refine lv_icmp_eq (tgt := 77) hx hb dX0_candidates_64 (by decide) (fun c20 => ?_) (fun c20 => ?_)
        · skip
          have f21 : ((V 59 (8 * (24 * b + (Int32.toNatClampNeg p0)) + (Int32.toNatClampNeg p1)))).toInt = (-1) := b_eq rfl (by decide) c20
          refine lv_iconst (v := 1) hx hb dX0_candidates_77 (by decide) ?_
          refine lv_goto (tgt := 82) hx hb dX0_candidates_78 (by decide) ?_
          refine lv_istore (lv' := [(11, .int 1), (10, .ref (ad (72 + (24 * b + (Int32.toNatClampNeg y8))))), (9, .int y8), (8, .int y9), (7, .int y10), (6, .int (V 59 (8 * (24 * b + (Int32.toNatClampNeg p0)) + (Int32.toNatClampNeg p1)))), (5, .int (V 58 (8 * (24 * b + (Int32.toNatClampNeg p0)) + (Int32.toNatClampNeg p1)))), (4, .int (V 60 (8 * (24 * b + (Int32.toNatClampNeg p0)) + (Int32.toNatClampNeg p1)))), (3, .ref (ad (72 + (24 * b + (Int32.toNatClampNeg p0))))), (0, .ref (ad (38 + b))), (1, .int p0), (2, .int p1)]) hx hb dX0_candidates_82 hl (by decide) rfl (fun ls hl => ?_)
          refine lv_aload hx hb dX0_candidates_84 (lv_at hl 1 rfl) ?_
          refine va_getN (D := D) (ci := 3) (v := .int (V 50 (24 * b + (Int32.toNatClampNeg y8)))) (fs := (xfComp ad V (24 * b + (Int32.toNatClampNeg y8)))) (C := RX3) (T := TX3) (N := 13) hx hb hg inX3 hown hK hP (72 + (24 * b + (Int32.toNatClampNeg y8))) (xgComp il19) rfl 5 (by decide) (hnw.use 517 n517 rfl) (fun _ h9 => h9) rfl dX0_candidates_86 ?_
          refine lv_iload hx hb dX0_candidates_89 (lv_at hl 6 rfl) ?_
          refine lv_ishr hx hb dX0_candidates_91 ?_
          refine lv_topi (fun z22 ez22 => ?_)
          refine lv_iconst (v := 1) hx hb dX0_candidates_92 (by decide) ?_
          refine lv_iand hx hb dX0_candidates_93 ?_
          refine lv_topi (fun z23 ez23 => ?_)
          have hz23 : 0 ≤ z23.toInt ∧ z23.toInt ≤ 1 := and_m ez23 (by decide)
          refine lv_if_eq (tgt := 165) hx hb dX0_candidates_94 (by decide) (fun c24 => ?_) (fun c24 => ?_)
          · skip
            have f25 : z23.toInt = 0 := b_eq rfl (by decide) c24
            obtain ⟨z26, ez26⟩ : ∃ y : Int32, y = y8 + 1 := ⟨_, rfl⟩
            have hz26 : z26.toInt = y8.toInt + 1 := i_add ez26 rfl (by decide) (by omega)
            refine lv_iinc (v := z26) (lv' := [(9, .int z26), (11, .int 1), (10, .ref (ad (72 + (24 * b + (Int32.toNatClampNeg y8))))), (8, .int y9), (7, .int y10), (6, .int (V 59 (8 * (24 * b + (Int32.toNatClampNeg p0)) + (Int32.toNatClampNeg p1)))), (5, .int (V 58 (8 * (24 * b + (Int32.toNatClampNeg p0)) + (Int32.toNatClampNeg p1)))), (4, .int (V 60 (8 * (24 * b + (Int32.toNatClampNeg p0)) + (Int32.toNatClampNeg p1)))), (3, .ref (ad (72 + (24 * b + (Int32.toNatClampNeg p0))))), (0, .ref (ad (38 + b))), (1, .int p0), (2, .int p1)]) hx hb dX0_candidates_165 hl (k := 2) rfl (by rw [ez26]; rfl) (by decide) rfl (fun ls hl => ?_)
            refine lv_goto (tgt := 40) hx hb dX0_candidates_168 (by decide) ?_
            have r27 : Int32.toInt 1 = 1 := by decide
            exact ihlp11 z26 y9 y10 H locs ls (by omega) (by omega) (by omega) hP hD hS (lv_sub hl [0, 3, 4, 5, 6, 7, 8, 9, 10, 11] rfl)
          · skip
            have f28 : z23.toInt ≠ 0 := b_neq rfl (by decide) c24
            refine lv_iload hx hb dX0_candidates_97 (lv_at hl 0 rfl) ?_
            refine lv_if_eq (tgt := 165) hx hb dX0_candidates_99 (by decide) (fun q => absurd q (by decide)) (fun _ => ?_)
            refine lv_aload_n hx hb dX0_candidates_102 rfl (lv_at hl 9 rfl) ?_
            refine lv_iload hx hb dX0_candidates_103 (lv_at hl 2 rfl) ?_
            refine gA_int (gA_runV (As := [.int y8]) (rest := []) (ci := 0) (q0 := (38 + b)) hx hb hml hown hg hP hD hK hS hA hnw hgk (x_isThere l D ks H.size ad kk V L Z y8 (b) hMV (by omega) (show b < 2 from by omega)) w1085 w1070 w1071 w167 w1072 rfl (xgBook hb2) hdV_yX0_isThere ⟨Nat.le_of_ble_eq_true rfl, Nat.le_of_ble_eq_true rfl⟩ rfl hl.1 rfl (Nat.le_of_ble_eq_true rfl) dX0_candidates_105 ⟨Nat.le_of_ble_eq_true rfl, Nat.le_of_ble_eq_true rfl⟩) hP hD hK hS hA (fun z29 u30 H locs w31 hP hD hK hS => ?_)
            have rgz29 := w31
            have rgz29 : 0 ≤ z29.toInt ∧ z29.toInt ≤ 1 := rgz29
            refine lv_if_ne (tgt := 114) hx hb dX0_candidates_108 (by decide) (fun c32 => ?_) (fun c32 => ?_)
            · skip
              have f33 : z29.toInt ≠ 0 := b_neq rfl (by decide) c32
              refine lv_iload hx hb dX0_candidates_114 (lv_at hl 7 rfl) ?_
              refine lv_iconst (v := 2) hx hb dX0_candidates_116 (by decide) ?_
              refine lv_icmp_eq (tgt := 140) hx hb dX0_candidates_117 (by decide) (fun c34 => ?_) (fun c34 => ?_)
              · skip
                have f35 : ((V 60 (8 * (24 * b + (Int32.toNatClampNeg p0)) + (Int32.toNatClampNeg p1)))).toInt = 2 := b_eq rfl (by decide) c34
                refine lv_iload hx hb dX0_candidates_140 (lv_at hl 7 rfl) ?_
                refine lv_iconst (v := 2) hx hb dX0_candidates_142 (by decide) ?_
                refine lv_icmp_eq (tgt := 156) hx hb dX0_candidates_143 (by decide) (fun c36 => ?_) (fun c36 => ?_)
                · skip
                  have f37 : ((V 60 (8 * (24 * b + (Int32.toNatClampNeg p0)) + (Int32.toNatClampNeg p1)))).toInt = 2 := b_eq rfl (by decide) c36
                  refine lv_iload hx hb dX0_candidates_156 (lv_at hl 4 rfl) ?_
                  refine lv_iconst (v := 1) hx hb dX0_candidates_158 (by decide) ?_
                  refine lv_iload hx hb dX0_candidates_159 (lv_at hl 2 rfl) ?_
                  refine lv_ishl hx hb dX0_candidates_161 ?_
                  refine lv_topi (fun z38 ez38 => ?_)
                  have hz38 : 0 ≤ z38.toInt ∧ z38.toInt < 16777216 := shl1 ez38 (by omega)
                  refine lv_ior hx hb dX0_candidates_162 ?_
                  refine lv_topi (fun z39 ez39 => ?_)
                  have hz39 : 0 ≤ z39.toInt ∧ z39.toInt < 16777216 := or24 ez39 (by omega) (by omega)
                  refine lv_istore (lv' := [(7, .int z39), (11, .int 1), (10, .ref (ad (72 + (24 * b + (Int32.toNatClampNeg y8))))), (9, .int y8), (8, .int y9), (6, .int (V 59 (8 * (24 * b + (Int32.toNatClampNeg p0)) + (Int32.toNatClampNeg p1)))), (5, .int (V 58 (8 * (24 * b + (Int32.toNatClampNeg p0)) + (Int32.toNatClampNeg p1)))), (4, .int (V 60 (8 * (24 * b + (Int32.toNatClampNeg p0)) + (Int32.toNatClampNeg p1)))), (3, .ref (ad (72 + (24 * b + (Int32.toNatClampNeg p0))))), (0, .ref (ad (38 + b))), (1, .int p0), (2, .int p1)]) hx hb dX0_candidates_163 hl (by decide) rfl (fun ls hl => ?_)
                  obtain ⟨z40, ez40⟩ : ∃ y : Int32, y = y8 + 1 := ⟨_, rfl⟩
                  have hz40 : z40.toInt = y8.toInt + 1 := i_add ez40 rfl (by decide) (by omega)
                  refine lv_iinc (v := z40) (lv' := [(9, .int z40), (7, .int z39), (11, .int 1), (10, .ref (ad (72 + (24 * b + (Int32.toNatClampNeg y8))))), (8, .int y9), (6, .int (V 59 (8 * (24 * b + (Int32.toNatClampNeg p0)) + (Int32.toNatClampNeg p1)))), (5, .int (V 58 (8 * (24 * b + (Int32.toNatClampNeg p0)) + (Int32.toNatClampNeg p1)))), (4, .int (V 60 (8 * (24 * b + (Int32.toNatClampNeg p0)) + (Int32.toNatClampNeg p1)))), (3, .ref (ad (72 + (24 * b + (Int32.toNatClampNeg p0))))), (0, .ref (ad (38 + b))), (1, .int p0), (2, .int p1)]) hx hb dX0_candidates_165 hl (k := 3) rfl (by rw [ez40]; rfl) (by decide) rfl (fun ls hl => ?_)
                  refine lv_goto (tgt := 40) hx hb dX0_candidates_168 (by decide) ?_
                  have r41 : Int32.toInt 1 = 1 := by decide
                  exact ihlp11 z40 y9 z39 H locs ls (by omega) (by omega) (by omega) hP hD hS (lv_sub hl [0, 4, 1, 5, 6, 7, 8, 9, 10, 11] rfl)
                · skip
                  have f42 : ((V 60 (8 * (24 * b + (Int32.toNatClampNeg p0)) + (Int32.toNatClampNeg p1)))).toInt ≠ 2 := b_neq rfl (by decide) c36
                  exfalso; omega
              · skip
                have f43 : ((V 60 (8 * (24 * b + (Int32.toNatClampNeg p0)) + (Int32.toNatClampNeg p1)))).toInt ≠ 2 := b_neq rfl (by decide) c34
                refine lv_aload hx hb dX0_candidates_120 (lv_at hl 1 rfl) ?_
                refine va_getN (D := D) (ci := 3) (v := .int (V 53 (24 * b + (Int32.toNatClampNeg y8)))) (fs := (xfComp ad V (24 * b + (Int32.toNatClampNeg y8)))) (C := RX3) (T := TX3) (N := 13) hx hb hg inX3 hown hK hP (72 + (24 * b + (Int32.toNatClampNeg y8))) (xgComp il19) rfl 8 (by decide) (hnw.use 529 n529 rfl) (fun _ h9 => h9) rfl dX0_candidates_122 ?_
                refine lv_iload hx hb dX0_candidates_125 (lv_at hl 3 rfl) ?_
                refine lv_icmp_le (tgt := 140) hx hb dX0_candidates_127 (by decide) (fun c44 => ?_) (fun c44 => ?_)
                · skip
                  have f45 : ((V 53 (24 * b + (Int32.toNatClampNeg y8)))).toInt ≤ y9.toInt := b_le rfl rfl c44
                  refine lv_iload hx hb dX0_candidates_140 (lv_at hl 7 rfl) ?_
                  refine lv_iconst (v := 2) hx hb dX0_candidates_142 (by decide) ?_
                  refine lv_icmp_eq (tgt := 156) hx hb dX0_candidates_143 (by decide) (fun c46 => ?_) (fun c46 => ?_)
                  · skip
                    have f47 : ((V 60 (8 * (24 * b + (Int32.toNatClampNeg p0)) + (Int32.toNatClampNeg p1)))).toInt = 2 := b_eq rfl (by decide) c46
                    refine lv_iload hx hb dX0_candidates_156 (lv_at hl 4 rfl) ?_
                    refine lv_iconst (v := 1) hx hb dX0_candidates_158 (by decide) ?_
                    refine lv_iload hx hb dX0_candidates_159 (lv_at hl 2 rfl) ?_
                    refine lv_ishl hx hb dX0_candidates_161 ?_
                    refine lv_topi (fun z48 ez48 => ?_)
                    have hz48 : 0 ≤ z48.toInt ∧ z48.toInt < 16777216 := shl1 ez48 (by omega)
                    refine lv_ior hx hb dX0_candidates_162 ?_
                    refine lv_topi (fun z49 ez49 => ?_)
                    have hz49 : 0 ≤ z49.toInt ∧ z49.toInt < 16777216 := or24 ez49 (by omega) (by omega)
                    refine lv_istore (lv' := [(7, .int z49), (11, .int 1), (10, .ref (ad (72 + (24 * b + (Int32.toNatClampNeg y8))))), (9, .int y8), (8, .int y9), (6, .int (V 59 (8 * (24 * b + (Int32.toNatClampNeg p0)) + (Int32.toNatClampNeg p1)))), (5, .int (V 58 (8 * (24 * b + (Int32.toNatClampNeg p0)) + (Int32.toNatClampNeg p1)))), (4, .int (V 60 (8 * (24 * b + (Int32.toNatClampNeg p0)) + (Int32.toNatClampNeg p1)))), (3, .ref (ad (72 + (24 * b + (Int32.toNatClampNeg p0))))), (0, .ref (ad (38 + b))), (1, .int p0), (2, .int p1)]) hx hb dX0_candidates_163 hl (by decide) rfl (fun ls hl => ?_)
                    obtain ⟨z50, ez50⟩ : ∃ y : Int32, y = y8 + 1 := ⟨_, rfl⟩
                    have hz50 : z50.toInt = y8.toInt + 1 := i_add ez50 rfl (by decide) (by omega)
                    refine lv_iinc (v := z50) (lv' := [(9, .int z50), (7, .int z49), (11, .int 1), (10, .ref (ad (72 + (24 * b + (Int32.toNatClampNeg y8))))), (8, .int y9), (6, .int (V 59 (8 * (24 * b + (Int32.toNatClampNeg p0)) + (Int32.toNatClampNeg p1)))), (5, .int (V 58 (8 * (24 * b + (Int32.toNatClampNeg p0)) + (Int32.toNatClampNeg p1)))), (4, .int (V 60 (8 * (24 * b + (Int32.toNatClampNeg p0)) + (Int32.toNatClampNeg p1)))), (3, .ref (ad (72 + (24 * b + (Int32.toNatClampNeg p0))))), (0, .ref (ad (38 + b))), (1, .int p0), (2, .int p1)]) hx hb dX0_candidates_165 hl (k := 3) rfl (by rw [ez50]; rfl) (by decide) rfl (fun ls hl => ?_)
                    refine lv_goto (tgt := 40) hx hb dX0_candidates_168 (by decide) ?_
                    have r51 : Int32.toInt 1 = 1 := by decide
                    exact ihlp11 z50 y9 z49 H locs ls (by omega) (by omega) (by omega) hP hD hS (lv_sub hl [0, 4, 1, 5, 6, 7, 8, 9, 10, 11] rfl)
                  · skip
                    have f52 : ((V 60 (8 * (24 * b + (Int32.toNatClampNeg p0)) + (Int32.toNatClampNeg p1)))).toInt ≠ 2 := b_neq rfl (by decide) c46
                    refine lv_aload hx hb dX0_candidates_146 (lv_at hl 1 rfl) ?_
                    refine va_getN (D := D) (ci := 3) (v := .int (V 53 (24 * b + (Int32.toNatClampNeg y8)))) (fs := (xfComp ad V (24 * b + (Int32.toNatClampNeg y8)))) (C := RX3) (T := TX3) (N := 13) hx hb hg inX3 hown hK hP (72 + (24 * b + (Int32.toNatClampNeg y8))) (xgComp il19) rfl 8 (by decide) (hnw.use 529 n529 rfl) (fun _ h9 => h9) rfl dX0_candidates_148 ?_
                    refine lv_iload hx hb dX0_candidates_151 (lv_at hl 3 rfl) ?_
                    refine lv_icmp_ne (tgt := 165) hx hb dX0_candidates_153 (by decide) (fun c53 => ?_) (fun c53 => ?_)
                    · skip
                      have f54 : ((V 53 (24 * b + (Int32.toNatClampNeg y8)))).toInt ≠ y9.toInt := b_neq rfl rfl c53
                      obtain ⟨z55, ez55⟩ : ∃ y : Int32, y = y8 + 1 := ⟨_, rfl⟩
                      have hz55 : z55.toInt = y8.toInt + 1 := i_add ez55 rfl (by decide) (by omega)
                      refine lv_iinc (v := z55) (lv' := [(9, .int z55), (11, .int 1), (10, .ref (ad (72 + (24 * b + (Int32.toNatClampNeg y8))))), (8, .int y9), (7, .int y10), (6, .int (V 59 (8 * (24 * b + (Int32.toNatClampNeg p0)) + (Int32.toNatClampNeg p1)))), (5, .int (V 58 (8 * (24 * b + (Int32.toNatClampNeg p0)) + (Int32.toNatClampNeg p1)))), (4, .int (V 60 (8 * (24 * b + (Int32.toNatClampNeg p0)) + (Int32.toNatClampNeg p1)))), (3, .ref (ad (72 + (24 * b + (Int32.toNatClampNeg p0))))), (0, .ref (ad (38 + b))), (1, .int p0), (2, .int p1)]) hx hb dX0_candidates_165 hl (k := 2) rfl (by rw [ez55]; rfl) (by decide) rfl (fun ls hl => ?_)
                      refine lv_goto (tgt := 40) hx hb dX0_candidates_168 (by decide) ?_
                      have r56 : Int32.toInt 1 = 1 := by decide
                      exact ihlp11 z55 y9 y10 H locs ls (by omega) (by omega) (by omega) hP hD hS (lv_sub hl [0, 3, 4, 5, 6, 7, 8, 9, 10, 11] rfl)
                    · skip
                      have f57 : ((V 53 (24 * b + (Int32.toNatClampNeg y8)))).toInt = y9.toInt := b_eq rfl rfl c53
                      refine lv_iload hx hb dX0_candidates_156 (lv_at hl 4 rfl) ?_
                      refine lv_iconst (v := 1) hx hb dX0_candidates_158 (by decide) ?_
                      refine lv_iload hx hb dX0_candidates_159 (lv_at hl 2 rfl) ?_
                      refine lv_ishl hx hb dX0_candidates_161 ?_
                      refine lv_topi (fun z58 ez58 => ?_)
                      have hz58 : 0 ≤ z58.toInt ∧ z58.toInt < 16777216 := shl1 ez58 (by omega)
                      refine lv_ior hx hb dX0_candidates_162 ?_
                      refine lv_topi (fun z59 ez59 => ?_)
                      have hz59 : 0 ≤ z59.toInt ∧ z59.toInt < 16777216 := or24 ez59 (by omega) (by omega)
                      refine lv_istore (lv' := [(7, .int z59), (11, .int 1), (10, .ref (ad (72 + (24 * b + (Int32.toNatClampNeg y8))))), (9, .int y8), (8, .int y9), (6, .int (V 59 (8 * (24 * b + (Int32.toNatClampNeg p0)) + (Int32.toNatClampNeg p1)))), (5, .int (V 58 (8 * (24 * b + (Int32.toNatClampNeg p0)) + (Int32.toNatClampNeg p1)))), (4, .int (V 60 (8 * (24 * b + (Int32.toNatClampNeg p0)) + (Int32.toNatClampNeg p1)))), (3, .ref (ad (72 + (24 * b + (Int32.toNatClampNeg p0))))), (0, .ref (ad (38 + b))), (1, .int p0), (2, .int p1)]) hx hb dX0_candidates_163 hl (by decide) rfl (fun ls hl => ?_)
                      obtain ⟨z60, ez60⟩ : ∃ y : Int32, y = y8 + 1 := ⟨_, rfl⟩
                      have hz60 : z60.toInt = y8.toInt + 1 := i_add ez60 rfl (by decide) (by omega)
                      refine lv_iinc (v := z60) (lv' := [(9, .int z60), (7, .int z59), (11, .int 1), (10, .ref (ad (72 + (24 * b + (Int32.toNatClampNeg y8))))), (8, .int y9), (6, .int (V 59 (8 * (24 * b + (Int32.toNatClampNeg p0)) + (Int32.toNatClampNeg p1)))), (5, .int (V 58 (8 * (24 * b + (Int32.toNatClampNeg p0)) + (Int32.toNatClampNeg p1)))), (4, .int (V 60 (8 * (24 * b + (Int32.toNatClampNeg p0)) + (Int32.toNatClampNeg p1)))), (3, .ref (ad (72 + (24 * b + (Int32.toNatClampNeg p0))))), (0, .ref (ad (38 + b))), (1, .int p0), (2, .int p1)]) hx hb dX0_candidates_165 hl (k := 3) rfl (by rw [ez60]; rfl) (by decide) rfl (fun ls hl => ?_)
                      refine lv_goto (tgt := 40) hx hb dX0_candidates_168 (by decide) ?_
                      have r61 : Int32.toInt 1 = 1 := by decide
                      exact ihlp11 z60 y9 z59 H locs ls (by omega) (by omega) (by omega) hP hD hS (lv_sub hl [0, 4, 1, 5, 6, 7, 8, 9, 10, 11] rfl)
                · skip
                  have f62 : y9.toInt < ((V 53 (24 * b + (Int32.toNatClampNeg y8)))).toInt := b_nle rfl rfl c44
                  refine lv_aload hx hb dX0_candidates_130 (lv_at hl 1 rfl) ?_
                  refine va_getN (D := D) (ci := 3) (v := .int (V 53 (24 * b + (Int32.toNatClampNeg y8)))) (fs := (xfComp ad V (24 * b + (Int32.toNatClampNeg y8)))) (C := RX3) (T := TX3) (N := 13) hx hb hg inX3 hown hK hP (72 + (24 * b + (Int32.toNatClampNeg y8))) (xgComp il19) rfl 8 (by decide) (hnw.use 529 n529 rfl) (fun _ h9 => h9) rfl dX0_candidates_132 ?_
                  refine lv_istore (lv' := [(8, .int (V 53 (24 * b + (Int32.toNatClampNeg y8)))), (11, .int 1), (10, .ref (ad (72 + (24 * b + (Int32.toNatClampNeg y8))))), (9, .int y8), (7, .int y10), (6, .int (V 59 (8 * (24 * b + (Int32.toNatClampNeg p0)) + (Int32.toNatClampNeg p1)))), (5, .int (V 58 (8 * (24 * b + (Int32.toNatClampNeg p0)) + (Int32.toNatClampNeg p1)))), (4, .int (V 60 (8 * (24 * b + (Int32.toNatClampNeg p0)) + (Int32.toNatClampNeg p1)))), (3, .ref (ad (72 + (24 * b + (Int32.toNatClampNeg p0))))), (0, .ref (ad (38 + b))), (1, .int p0), (2, .int p1)]) hx hb dX0_candidates_135 hl (by decide) rfl (fun ls hl => ?_)
                  refine lv_iconst (v := 0) hx hb dX0_candidates_137 (by decide) ?_
                  refine lv_istore (lv' := [(7, .int 0), (8, .int (V 53 (24 * b + (Int32.toNatClampNeg y8)))), (11, .int 1), (10, .ref (ad (72 + (24 * b + (Int32.toNatClampNeg y8))))), (9, .int y8), (6, .int (V 59 (8 * (24 * b + (Int32.toNatClampNeg p0)) + (Int32.toNatClampNeg p1)))), (5, .int (V 58 (8 * (24 * b + (Int32.toNatClampNeg p0)) + (Int32.toNatClampNeg p1)))), (4, .int (V 60 (8 * (24 * b + (Int32.toNatClampNeg p0)) + (Int32.toNatClampNeg p1)))), (3, .ref (ad (72 + (24 * b + (Int32.toNatClampNeg p0))))), (0, .ref (ad (38 + b))), (1, .int p0), (2, .int p1)]) hx hb dX0_candidates_138 hl (by decide) rfl (fun ls hl => ?_)
                  refine lv_iload hx hb dX0_candidates_140 (lv_at hl 7 rfl) ?_
                  refine lv_iconst (v := 2) hx hb dX0_candidates_142 (by decide) ?_
                  refine lv_icmp_eq (tgt := 156) hx hb dX0_candidates_143 (by decide) (fun c63 => ?_) (fun c63 => ?_)
                  · skip
                    have f64 : ((V 60 (8 * (24 * b + (Int32.toNatClampNeg p0)) + (Int32.toNatClampNeg p1)))).toInt = 2 := b_eq rfl (by decide) c63
                    refine lv_iload hx hb dX0_candidates_156 (lv_at hl 0 rfl) ?_
                    refine lv_iconst (v := 1) hx hb dX0_candidates_158 (by decide) ?_
                    refine lv_iload hx hb dX0_candidates_159 (lv_at hl 4 rfl) ?_
                    refine lv_ishl hx hb dX0_candidates_161 ?_
                    refine lv_topi (fun z65 ez65 => ?_)
                    have hz65 : 0 ≤ z65.toInt ∧ z65.toInt < 16777216 := shl1 ez65 (by omega)
                    refine lv_ior hx hb dX0_candidates_162 ?_
                    refine lv_topi (fun z66 ez66 => ?_)
                    have hz66 : 0 ≤ z66.toInt ∧ z66.toInt < 16777216 := or24 ez66 (by decide) (by omega)
                    refine lv_istore (lv' := [(7, .int z66), (8, .int (V 53 (24 * b + (Int32.toNatClampNeg y8)))), (11, .int 1), (10, .ref (ad (72 + (24 * b + (Int32.toNatClampNeg y8))))), (9, .int y8), (6, .int (V 59 (8 * (24 * b + (Int32.toNatClampNeg p0)) + (Int32.toNatClampNeg p1)))), (5, .int (V 58 (8 * (24 * b + (Int32.toNatClampNeg p0)) + (Int32.toNatClampNeg p1)))), (4, .int (V 60 (8 * (24 * b + (Int32.toNatClampNeg p0)) + (Int32.toNatClampNeg p1)))), (3, .ref (ad (72 + (24 * b + (Int32.toNatClampNeg p0))))), (0, .ref (ad (38 + b))), (1, .int p0), (2, .int p1)]) hx hb dX0_candidates_163 hl (by decide) rfl (fun ls hl => ?_)
                    obtain ⟨z67, ez67⟩ : ∃ y : Int32, y = y8 + 1 := ⟨_, rfl⟩
                    have hz67 : z67.toInt = y8.toInt + 1 := i_add ez67 rfl (by decide) (by omega)
                    refine lv_iinc (v := z67) (lv' := [(9, .int z67), (7, .int z66), (8, .int (V 53 (24 * b + (Int32.toNatClampNeg y8)))), (11, .int 1), (10, .ref (ad (72 + (24 * b + (Int32.toNatClampNeg y8))))), (6, .int (V 59 (8 * (24 * b + (Int32.toNatClampNeg p0)) + (Int32.toNatClampNeg p1)))), (5, .int (V 58 (8 * (24 * b + (Int32.toNatClampNeg p0)) + (Int32.toNatClampNeg p1)))), (4, .int (V 60 (8 * (24 * b + (Int32.toNatClampNeg p0)) + (Int32.toNatClampNeg p1)))), (3, .ref (ad (72 + (24 * b + (Int32.toNatClampNeg p0))))), (0, .ref (ad (38 + b))), (1, .int p0), (2, .int p1)]) hx hb dX0_candidates_165 hl (k := 4) rfl (by rw [ez67]; rfl) (by decide) rfl (fun ls hl => ?_)
                    refine lv_goto (tgt := 40) hx hb dX0_candidates_168 (by decide) ?_
                    have r68 : Int32.toInt 1 = 1 := by decide
                    exact ihlp11 z67 (V 53 (24 * b + (Int32.toNatClampNeg y8))) z66 H locs ls (by omega) (by omega) (by omega) hP hD hS (lv_sub hl [0, 2, 1, 5, 6, 7, 8, 9, 10, 11] rfl)
                  · skip
                    have f69 : ((V 60 (8 * (24 * b + (Int32.toNatClampNeg p0)) + (Int32.toNatClampNeg p1)))).toInt ≠ 2 := b_neq rfl (by decide) c63
                    refine lv_aload hx hb dX0_candidates_146 (lv_at hl 3 rfl) ?_
                    refine va_getN (D := D) (ci := 3) (v := .int (V 53 (24 * b + (Int32.toNatClampNeg y8)))) (fs := (xfComp ad V (24 * b + (Int32.toNatClampNeg y8)))) (C := RX3) (T := TX3) (N := 13) hx hb hg inX3 hown hK hP (72 + (24 * b + (Int32.toNatClampNeg y8))) (xgComp il19) rfl 8 (by decide) (hnw.use 529 n529 rfl) (fun _ h9 => h9) rfl dX0_candidates_148 ?_
                    refine lv_iload hx hb dX0_candidates_151 (lv_at hl 1 rfl) ?_
                    refine lv_icmp_ne (tgt := 165) hx hb dX0_candidates_153 (by decide) (fun c70 => ?_) (fun c70 => ?_)
                    · skip
                      have f71 : ((V 53 (24 * b + (Int32.toNatClampNeg y8)))).toInt ≠ ((V 53 (24 * b + (Int32.toNatClampNeg y8)))).toInt := b_neq rfl rfl c70
                      obtain ⟨z72, ez72⟩ : ∃ y : Int32, y = y8 + 1 := ⟨_, rfl⟩
                      have hz72 : z72.toInt = y8.toInt + 1 := i_add ez72 rfl (by decide) (by omega)
                      refine lv_iinc (v := z72) (lv' := [(9, .int z72), (7, .int 0), (8, .int (V 53 (24 * b + (Int32.toNatClampNeg y8)))), (11, .int 1), (10, .ref (ad (72 + (24 * b + (Int32.toNatClampNeg y8))))), (6, .int (V 59 (8 * (24 * b + (Int32.toNatClampNeg p0)) + (Int32.toNatClampNeg p1)))), (5, .int (V 58 (8 * (24 * b + (Int32.toNatClampNeg p0)) + (Int32.toNatClampNeg p1)))), (4, .int (V 60 (8 * (24 * b + (Int32.toNatClampNeg p0)) + (Int32.toNatClampNeg p1)))), (3, .ref (ad (72 + (24 * b + (Int32.toNatClampNeg p0))))), (0, .ref (ad (38 + b))), (1, .int p0), (2, .int p1)]) hx hb dX0_candidates_165 hl (k := 4) rfl (by rw [ez72]; rfl) (by decide) rfl (fun ls hl => ?_)
                      refine lv_goto (tgt := 40) hx hb dX0_candidates_168 (by decide) ?_
                      have r73 : Int32.toInt 0 = 0 := by decide
                      have r74 : Int32.toInt 1 = 1 := by decide
                      exact ihlp11 z72 (V 53 (24 * b + (Int32.toNatClampNeg y8))) 0 H locs ls (by omega) (by decide) (by omega) hP hD hS (lv_sub hl [0, 2, 1, 5, 6, 7, 8, 9, 10, 11] rfl)
                    · skip
                      have f75 : ((V 53 (24 * b + (Int32.toNatClampNeg y8)))).toInt = ((V 53 (24 * b + (Int32.toNatClampNeg y8)))).toInt := b_eq rfl rfl c70
                      refine lv_iload hx hb dX0_candidates_156 (lv_at hl 0 rfl) ?_
                      refine lv_iconst (v := 1) hx hb dX0_candidates_158 (by decide) ?_
                      refine lv_iload hx hb dX0_candidates_159 (lv_at hl 4 rfl) ?_
                      refine lv_ishl hx hb dX0_candidates_161 ?_
                      refine lv_topi (fun z76 ez76 => ?_)
                      have hz76 : 0 ≤ z76.toInt ∧ z76.toInt < 16777216 := shl1 ez76 (by omega)
                      refine lv_ior hx hb dX0_candidates_162 ?_
                      refine lv_topi (fun z77 ez77 => ?_)
                      have hz77 : 0 ≤ z77.toInt ∧ z77.toInt < 16777216 := or24 ez77 (by decide) (by omega)
                      refine lv_istore (lv' := [(7, .int z77), (8, .int (V 53 (24 * b + (Int32.toNatClampNeg y8)))), (11, .int 1), (10, .ref (ad (72 + (24 * b + (Int32.toNatClampNeg y8))))), (9, .int y8), (6, .int (V 59 (8 * (24 * b + (Int32.toNatClampNeg p0)) + (Int32.toNatClampNeg p1)))), (5, .int (V 58 (8 * (24 * b + (Int32.toNatClampNeg p0)) + (Int32.toNatClampNeg p1)))), (4, .int (V 60 (8 * (24 * b + (Int32.toNatClampNeg p0)) + (Int32.toNatClampNeg p1)))), (3, .ref (ad (72 + (24 * b + (Int32.toNatClampNeg p0))))), (0, .ref (ad (38 + b))), (1, .int p0), (2, .int p1)]) hx hb dX0_candidates_163 hl (by decide) rfl (fun ls hl => ?_)
                      obtain ⟨z78, ez78⟩ : ∃ y : Int32, y = y8 + 1 := ⟨_, rfl⟩
                      have hz78 : z78.toInt = y8.toInt + 1 := i_add ez78 rfl (by decide) (by omega)
                      refine lv_iinc (v := z78) (lv' := [(9, .int z78), (7, .int z77), (8, .int (V 53 (24 * b + (Int32.toNatClampNeg y8)))), (11, .int 1), (10, .ref (ad (72 + (24 * b + (Int32.toNatClampNeg y8))))), (6, .int (V 59 (8 * (24 * b + (Int32.toNatClampNeg p0)) + (Int32.toNatClampNeg p1)))), (5, .int (V 58 (8 * (24 * b + (Int32.toNatClampNeg p0)) + (Int32.toNatClampNeg p1)))), (4, .int (V 60 (8 * (24 * b + (Int32.toNatClampNeg p0)) + (Int32.toNatClampNeg p1)))), (3, .ref (ad (72 + (24 * b + (Int32.toNatClampNeg p0))))), (0, .ref (ad (38 + b))), (1, .int p0), (2, .int p1)]) hx hb dX0_candidates_165 hl (k := 4) rfl (by rw [ez78]; rfl) (by decide) rfl (fun ls hl => ?_)
                      refine lv_goto (tgt := 40) hx hb dX0_candidates_168 (by decide) ?_
                      have r79 : Int32.toInt 1 = 1 := by decide
                      exact ihlp11 z78 (V 53 (24 * b + (Int32.toNatClampNeg y8))) z77 H locs ls (by omega) (by omega) (by omega) hP hD hS (lv_sub hl [0, 2, 1, 5, 6, 7, 8, 9, 10, 11] rfl)
            · skip
              have f80 : z29.toInt = 0 := b_eq rfl (by decide) c32
              refine lv_goto (tgt := 165) hx hb dX0_candidates_111 (by decide) ?_
              obtain ⟨z81, ez81⟩ : ∃ y : Int32, y = y8 + 1 := ⟨_, rfl⟩
              have hz81 : z81.toInt = y8.toInt + 1 := i_add ez81 rfl (by decide) (by omega)
              refine lv_iinc (v := z81) (lv' := [(9, .int z81), (11, .int 1), (10, .ref (ad (72 + (24 * b + (Int32.toNatClampNeg y8))))), (8, .int y9), (7, .int y10), (6, .int (V 59 (8 * (24 * b + (Int32.toNatClampNeg p0)) + (Int32.toNatClampNeg p1)))), (5, .int (V 58 (8 * (24 * b + (Int32.toNatClampNeg p0)) + (Int32.toNatClampNeg p1)))), (4, .int (V 60 (8 * (24 * b + (Int32.toNatClampNeg p0)) + (Int32.toNatClampNeg p1)))), (3, .ref (ad (72 + (24 * b + (Int32.toNatClampNeg p0))))), (0, .ref (ad (38 + b))), (1, .int p0), (2, .int p1)]) hx hb dX0_candidates_165 hl (k := 2) rfl (by rw [ez81]; rfl) (by decide) rfl (fun ls hl => ?_)
              refine lv_goto (tgt := 40) hx hb dX0_candidates_168 (by decide) ?_
              have r82 : Int32.toInt 1 = 1 := by decide
              exact ihlp11 z81 y9 y10 H locs ls (by omega) (by omega) (by omega) hP hD hS (lv_sub hl [0, 3, 4, 5, 6, 7, 8, 9, 10, 11] rfl)
        · skip
          have f83 : ((V 59 (8 * (24 * b + (Int32.toNatClampNeg p0)) + (Int32.toNatClampNeg p1)))).toInt ≠ (-1) := b_neq rfl (by decide) c20
          refine lv_aload hx hb dX0_candidates_67 (lv_at hl 0 rfl) ?_
          refine va_getN (D := D) (ci := 3) (v := .int (V 52 (24 * b + (Int32.toNatClampNeg y8)))) (fs := (xfComp ad V (24 * b + (Int32.toNatClampNeg y8)))) (C := RX3) (T := TX3) (N := 13) hx hb hg inX3 hown hK hP (72 + (24 * b + (Int32.toNatClampNeg y8))) (xgComp il19) rfl 7 (by decide) (hnw.use 525 n525 rfl) (fun _ h9 => h9) rfl dX0_candidates_69 ?_
          refine lv_iload hx hb dX0_candidates_72 (lv_at hl 4 rfl) ?_
          refine lv_icmp_ne (tgt := 81) hx hb dX0_candidates_74 (by decide) (fun c84 => ?_) (fun c84 => ?_)
          · skip
            have f85 : ((V 52 (24 * b + (Int32.toNatClampNeg y8)))).toInt ≠ ((V 59 (8 * (24 * b + (Int32.toNatClampNeg p0)) + (Int32.toNatClampNeg p1)))).toInt := b_neq rfl rfl c84
            refine lv_iconst (v := 0) hx hb dX0_candidates_81 (by decide) ?_
            refine lv_istore (lv' := [(11, .int 0), (10, .ref (ad (72 + (24 * b + (Int32.toNatClampNeg y8))))), (9, .int y8), (8, .int y9), (7, .int y10), (6, .int (V 59 (8 * (24 * b + (Int32.toNatClampNeg p0)) + (Int32.toNatClampNeg p1)))), (5, .int (V 58 (8 * (24 * b + (Int32.toNatClampNeg p0)) + (Int32.toNatClampNeg p1)))), (4, .int (V 60 (8 * (24 * b + (Int32.toNatClampNeg p0)) + (Int32.toNatClampNeg p1)))), (3, .ref (ad (72 + (24 * b + (Int32.toNatClampNeg p0))))), (0, .ref (ad (38 + b))), (1, .int p0), (2, .int p1)]) hx hb dX0_candidates_82 hl (by decide) rfl (fun ls hl => ?_)
            refine lv_aload hx hb dX0_candidates_84 (lv_at hl 1 rfl) ?_
            refine va_getN (D := D) (ci := 3) (v := .int (V 50 (24 * b + (Int32.toNatClampNeg y8)))) (fs := (xfComp ad V (24 * b + (Int32.toNatClampNeg y8)))) (C := RX3) (T := TX3) (N := 13) hx hb hg inX3 hown hK hP (72 + (24 * b + (Int32.toNatClampNeg y8))) (xgComp il19) rfl 5 (by decide) (hnw.use 517 n517 rfl) (fun _ h9 => h9) rfl dX0_candidates_86 ?_
            refine lv_iload hx hb dX0_candidates_89 (lv_at hl 6 rfl) ?_
            refine lv_ishr hx hb dX0_candidates_91 ?_
            refine lv_topi (fun z86 ez86 => ?_)
            refine lv_iconst (v := 1) hx hb dX0_candidates_92 (by decide) ?_
            refine lv_iand hx hb dX0_candidates_93 ?_
            refine lv_topi (fun z87 ez87 => ?_)
            have hz87 : 0 ≤ z87.toInt ∧ z87.toInt ≤ 1 := and_m ez87 (by decide)
            refine lv_if_eq (tgt := 165) hx hb dX0_candidates_94 (by decide) (fun c88 => ?_) (fun c88 => ?_)
            · skip
              have f89 : z87.toInt = 0 := b_eq rfl (by decide) c88
              obtain ⟨z90, ez90⟩ : ∃ y : Int32, y = y8 + 1 := ⟨_, rfl⟩
              have hz90 : z90.toInt = y8.toInt + 1 := i_add ez90 rfl (by decide) (by omega)
              refine lv_iinc (v := z90) (lv' := [(9, .int z90), (11, .int 0), (10, .ref (ad (72 + (24 * b + (Int32.toNatClampNeg y8))))), (8, .int y9), (7, .int y10), (6, .int (V 59 (8 * (24 * b + (Int32.toNatClampNeg p0)) + (Int32.toNatClampNeg p1)))), (5, .int (V 58 (8 * (24 * b + (Int32.toNatClampNeg p0)) + (Int32.toNatClampNeg p1)))), (4, .int (V 60 (8 * (24 * b + (Int32.toNatClampNeg p0)) + (Int32.toNatClampNeg p1)))), (3, .ref (ad (72 + (24 * b + (Int32.toNatClampNeg p0))))), (0, .ref (ad (38 + b))), (1, .int p0), (2, .int p1)]) hx hb dX0_candidates_165 hl (k := 2) rfl (by rw [ez90]; rfl) (by decide) rfl (fun ls hl => ?_)
              refine lv_goto (tgt := 40) hx hb dX0_candidates_168 (by decide) ?_
              have r91 : Int32.toInt 0 = 0 := by decide
              exact ihlp11 z90 y9 y10 H locs ls (by omega) (by omega) (by omega) hP hD hS (lv_sub hl [0, 3, 4, 5, 6, 7, 8, 9, 10, 11] rfl)
            · skip
              have f92 : z87.toInt ≠ 0 := b_neq rfl (by decide) c88
              refine lv_iload hx hb dX0_candidates_97 (lv_at hl 0 rfl) ?_
              refine lv_if_eq (tgt := 165) hx hb dX0_candidates_99 (by decide) (fun _ => ?_) (fun q => absurd (by decide) q)
              obtain ⟨z93, ez93⟩ : ∃ y : Int32, y = y8 + 1 := ⟨_, rfl⟩
              have hz93 : z93.toInt = y8.toInt + 1 := i_add ez93 rfl (by decide) (by omega)
              refine lv_iinc (v := z93) (lv' := [(9, .int z93), (11, .int 0), (10, .ref (ad (72 + (24 * b + (Int32.toNatClampNeg y8))))), (8, .int y9), (7, .int y10), (6, .int (V 59 (8 * (24 * b + (Int32.toNatClampNeg p0)) + (Int32.toNatClampNeg p1)))), (5, .int (V 58 (8 * (24 * b + (Int32.toNatClampNeg p0)) + (Int32.toNatClampNeg p1)))), (4, .int (V 60 (8 * (24 * b + (Int32.toNatClampNeg p0)) + (Int32.toNatClampNeg p1)))), (3, .ref (ad (72 + (24 * b + (Int32.toNatClampNeg p0))))), (0, .ref (ad (38 + b))), (1, .int p0), (2, .int p1)]) hx hb dX0_candidates_165 hl (k := 2) rfl (by rw [ez93]; rfl) (by decide) rfl (fun ls hl => ?_)
              refine lv_goto (tgt := 40) hx hb dX0_candidates_168 (by decide) ?_
              have r94 : Int32.toInt 0 = 0 := by decide
              exact ihlp11 z93 y9 y10 H locs ls (by omega) (by omega) (by omega) hP hD hS (lv_sub hl [0, 3, 4, 5, 6, 7, 8, 9, 10, 11] rfl)
          · skip
            have f95 : ((V 52 (24 * b + (Int32.toNatClampNeg y8)))).toInt = ((V 59 (8 * (24 * b + (Int32.toNatClampNeg p0)) + (Int32.toNatClampNeg p1)))).toInt := b_eq rfl rfl c84
            refine lv_iconst (v := 1) hx hb dX0_candidates_77 (by decide) ?_
            refine lv_goto (tgt := 82) hx hb dX0_candidates_78 (by decide) ?_
            refine lv_istore (lv' := [(11, .int 1), (10, .ref (ad (72 + (24 * b + (Int32.toNatClampNeg y8))))), (9, .int y8), (8, .int y9), (7, .int y10), (6, .int (V 59 (8 * (24 * b + (Int32.toNatClampNeg p0)) + (Int32.toNatClampNeg p1)))), (5, .int (V 58 (8 * (24 * b + (Int32.toNatClampNeg p0)) + (Int32.toNatClampNeg p1)))), (4, .int (V 60 (8 * (24 * b + (Int32.toNatClampNeg p0)) + (Int32.toNatClampNeg p1)))), (3, .ref (ad (72 + (24 * b + (Int32.toNatClampNeg p0))))), (0, .ref (ad (38 + b))), (1, .int p0), (2, .int p1)]) hx hb dX0_candidates_82 hl (by decide) rfl (fun ls hl => ?_)
            refine lv_aload hx hb dX0_candidates_84 (lv_at hl 1 rfl) ?_
            refine va_getN (D := D) (ci := 3) (v := .int (V 50 (24 * b + (Int32.toNatClampNeg y8)))) (fs := (xfComp ad V (24 * b + (Int32.toNatClampNeg y8)))) (C := RX3) (T := TX3) (N := 13) hx hb hg inX3 hown hK hP (72 + (24 * b + (Int32.toNatClampNeg y8))) (xgComp il19) rfl 5 (by decide) (hnw.use 517 n517 rfl) (fun _ h9 => h9) rfl dX0_candidates_86 ?_
            refine lv_iload hx hb dX0_candidates_89 (lv_at hl 6 rfl) ?_
            refine lv_ishr hx hb dX0_candidates_91 ?_
            refine lv_topi (fun z96 ez96 => ?_)
            refine lv_iconst (v := 1) hx hb dX0_candidates_92 (by decide) ?_
            refine lv_iand hx hb dX0_candidates_93 ?_
            refine lv_topi (fun z97 ez97 => ?_)
            have hz97 : 0 ≤ z97.toInt ∧ z97.toInt ≤ 1 := and_m ez97 (by decide)
            refine lv_if_eq (tgt := 165) hx hb dX0_candidates_94 (by decide) (fun c98 => ?_) (fun c98 => ?_)
            · skip
              have f99 : z97.toInt = 0 := b_eq rfl (by decide) c98
              obtain ⟨z100, ez100⟩ : ∃ y : Int32, y = y8 + 1 := ⟨_, rfl⟩
              have hz100 : z100.toInt = y8.toInt + 1 := i_add ez100 rfl (by decide) (by omega)
              refine lv_iinc (v := z100) (lv' := [(9, .int z100), (11, .int 1), (10, .ref (ad (72 + (24 * b + (Int32.toNatClampNeg y8))))), (8, .int y9), (7, .int y10), (6, .int (V 59 (8 * (24 * b + (Int32.toNatClampNeg p0)) + (Int32.toNatClampNeg p1)))), (5, .int (V 58 (8 * (24 * b + (Int32.toNatClampNeg p0)) + (Int32.toNatClampNeg p1)))), (4, .int (V 60 (8 * (24 * b + (Int32.toNatClampNeg p0)) + (Int32.toNatClampNeg p1)))), (3, .ref (ad (72 + (24 * b + (Int32.toNatClampNeg p0))))), (0, .ref (ad (38 + b))), (1, .int p0), (2, .int p1)]) hx hb dX0_candidates_165 hl (k := 2) rfl (by rw [ez100]; rfl) (by decide) rfl (fun ls hl => ?_)
              refine lv_goto (tgt := 40) hx hb dX0_candidates_168 (by decide) ?_
              have r101 : Int32.toInt 1 = 1 := by decide
              exact ihlp11 z100 y9 y10 H locs ls (by omega) (by omega) (by omega) hP hD hS (lv_sub hl [0, 3, 4, 5, 6, 7, 8, 9, 10, 11] rfl)
            · skip
              have f102 : z97.toInt ≠ 0 := b_neq rfl (by decide) c98
              refine lv_iload hx hb dX0_candidates_97 (lv_at hl 0 rfl) ?_
              refine lv_if_eq (tgt := 165) hx hb dX0_candidates_99 (by decide) (fun q => absurd q (by decide)) (fun _ => ?_)
              refine lv_aload_n hx hb dX0_candidates_102 rfl (lv_at hl 9 rfl) ?_
              refine lv_iload hx hb dX0_candidates_103 (lv_at hl 2 rfl) ?_
              refine gA_int (gA_runV (As := [.int y8]) (rest := []) (ci := 0) (q0 := (38 + b)) hx hb hml hown hg hP hD hK hS hA hnw hgk (x_isThere l D ks H.size ad kk V L Z y8 (b) hMV (by omega) (show b < 2 from by omega)) w1085 w1070 w1071 w167 w1072 rfl (xgBook hb2) hdV_yX0_isThere ⟨Nat.le_of_ble_eq_true rfl, Nat.le_of_ble_eq_true rfl⟩ rfl hl.1 rfl (Nat.le_of_ble_eq_true rfl) dX0_candidates_105 ⟨Nat.le_of_ble_eq_true rfl, Nat.le_of_ble_eq_true rfl⟩) hP hD hK hS hA (fun z103 u104 H locs w105 hP hD hK hS => ?_)
              have rgz103 := w105
              have rgz103 : 0 ≤ z103.toInt ∧ z103.toInt ≤ 1 := rgz103
              refine lv_if_ne (tgt := 114) hx hb dX0_candidates_108 (by decide) (fun c106 => ?_) (fun c106 => ?_)
              · skip
                have f107 : z103.toInt ≠ 0 := b_neq rfl (by decide) c106
                refine lv_iload hx hb dX0_candidates_114 (lv_at hl 7 rfl) ?_
                refine lv_iconst (v := 2) hx hb dX0_candidates_116 (by decide) ?_
                refine lv_icmp_eq (tgt := 140) hx hb dX0_candidates_117 (by decide) (fun c108 => ?_) (fun c108 => ?_)
                · skip
                  have f109 : ((V 60 (8 * (24 * b + (Int32.toNatClampNeg p0)) + (Int32.toNatClampNeg p1)))).toInt = 2 := b_eq rfl (by decide) c108
                  refine lv_iload hx hb dX0_candidates_140 (lv_at hl 7 rfl) ?_
                  refine lv_iconst (v := 2) hx hb dX0_candidates_142 (by decide) ?_
                  refine lv_icmp_eq (tgt := 156) hx hb dX0_candidates_143 (by decide) (fun c110 => ?_) (fun c110 => ?_)
                  · skip
                    have f111 : ((V 60 (8 * (24 * b + (Int32.toNatClampNeg p0)) + (Int32.toNatClampNeg p1)))).toInt = 2 := b_eq rfl (by decide) c110
                    refine lv_iload hx hb dX0_candidates_156 (lv_at hl 4 rfl) ?_
                    refine lv_iconst (v := 1) hx hb dX0_candidates_158 (by decide) ?_
                    refine lv_iload hx hb dX0_candidates_159 (lv_at hl 2 rfl) ?_
                    refine lv_ishl hx hb dX0_candidates_161 ?_
                    refine lv_topi (fun z112 ez112 => ?_)
                    have hz112 : 0 ≤ z112.toInt ∧ z112.toInt < 16777216 := shl1 ez112 (by omega)
                    refine lv_ior hx hb dX0_candidates_162 ?_
                    refine lv_topi (fun z113 ez113 => ?_)
                    have hz113 : 0 ≤ z113.toInt ∧ z113.toInt < 16777216 := or24 ez113 (by omega) (by omega)
                    refine lv_istore (lv' := [(7, .int z113), (11, .int 1), (10, .ref (ad (72 + (24 * b + (Int32.toNatClampNeg y8))))), (9, .int y8), (8, .int y9), (6, .int (V 59 (8 * (24 * b + (Int32.toNatClampNeg p0)) + (Int32.toNatClampNeg p1)))), (5, .int (V 58 (8 * (24 * b + (Int32.toNatClampNeg p0)) + (Int32.toNatClampNeg p1)))), (4, .int (V 60 (8 * (24 * b + (Int32.toNatClampNeg p0)) + (Int32.toNatClampNeg p1)))), (3, .ref (ad (72 + (24 * b + (Int32.toNatClampNeg p0))))), (0, .ref (ad (38 + b))), (1, .int p0), (2, .int p1)]) hx hb dX0_candidates_163 hl (by decide) rfl (fun ls hl => ?_)
                    obtain ⟨z114, ez114⟩ : ∃ y : Int32, y = y8 + 1 := ⟨_, rfl⟩
                    have hz114 : z114.toInt = y8.toInt + 1 := i_add ez114 rfl (by decide) (by omega)
                    refine lv_iinc (v := z114) (lv' := [(9, .int z114), (7, .int z113), (11, .int 1), (10, .ref (ad (72 + (24 * b + (Int32.toNatClampNeg y8))))), (8, .int y9), (6, .int (V 59 (8 * (24 * b + (Int32.toNatClampNeg p0)) + (Int32.toNatClampNeg p1)))), (5, .int (V 58 (8 * (24 * b + (Int32.toNatClampNeg p0)) + (Int32.toNatClampNeg p1)))), (4, .int (V 60 (8 * (24 * b + (Int32.toNatClampNeg p0)) + (Int32.toNatClampNeg p1)))), (3, .ref (ad (72 + (24 * b + (Int32.toNatClampNeg p0))))), (0, .ref (ad (38 + b))), (1, .int p0), (2, .int p1)]) hx hb dX0_candidates_165 hl (k := 3) rfl (by rw [ez114]; rfl) (by decide) rfl (fun ls hl => ?_)
                    refine lv_goto (tgt := 40) hx hb dX0_candidates_168 (by decide) ?_
                    have r115 : Int32.toInt 1 = 1 := by decide
                    exact ihlp11 z114 y9 z113 H locs ls (by omega) (by omega) (by omega) hP hD hS (lv_sub hl [0, 4, 1, 5, 6, 7, 8, 9, 10, 11] rfl)
                  · skip
                    have f116 : ((V 60 (8 * (24 * b + (Int32.toNatClampNeg p0)) + (Int32.toNatClampNeg p1)))).toInt ≠ 2 := b_neq rfl (by decide) c110
                    exfalso; omega
                · skip
                  have f117 : ((V 60 (8 * (24 * b + (Int32.toNatClampNeg p0)) + (Int32.toNatClampNeg p1)))).toInt ≠ 2 := b_neq rfl (by decide) c108
                  refine lv_aload hx hb dX0_candidates_120 (lv_at hl 1 rfl) ?_
                  refine va_getN (D := D) (ci := 3) (v := .int (V 53 (24 * b + (Int32.toNatClampNeg y8)))) (fs := (xfComp ad V (24 * b + (Int32.toNatClampNeg y8)))) (C := RX3) (T := TX3) (N := 13) hx hb hg inX3 hown hK hP (72 + (24 * b + (Int32.toNatClampNeg y8))) (xgComp il19) rfl 8 (by decide) (hnw.use 529 n529 rfl) (fun _ h9 => h9) rfl dX0_candidates_122 ?_
                  refine lv_iload hx hb dX0_candidates_125 (lv_at hl 3 rfl) ?_
                  refine lv_icmp_le (tgt := 140) hx hb dX0_candidates_127 (by decide) (fun c118 => ?_) (fun c118 => ?_)
                  · skip
                    have f119 : ((V 53 (24 * b + (Int32.toNatClampNeg y8)))).toInt ≤ y9.toInt := b_le rfl rfl c118
                    refine lv_iload hx hb dX0_candidates_140 (lv_at hl 7 rfl) ?_
                    refine lv_iconst (v := 2) hx hb dX0_candidates_142 (by decide) ?_
                    refine lv_icmp_eq (tgt := 156) hx hb dX0_candidates_143 (by decide) (fun c120 => ?_) (fun c120 => ?_)
                    · skip
                      have f121 : ((V 60 (8 * (24 * b + (Int32.toNatClampNeg p0)) + (Int32.toNatClampNeg p1)))).toInt = 2 := b_eq rfl (by decide) c120
                      refine lv_iload hx hb dX0_candidates_156 (lv_at hl 4 rfl) ?_
                      refine lv_iconst (v := 1) hx hb dX0_candidates_158 (by decide) ?_
                      refine lv_iload hx hb dX0_candidates_159 (lv_at hl 2 rfl) ?_
                      refine lv_ishl hx hb dX0_candidates_161 ?_
                      refine lv_topi (fun z122 ez122 => ?_)
                      have hz122 : 0 ≤ z122.toInt ∧ z122.toInt < 16777216 := shl1 ez122 (by omega)
                      refine lv_ior hx hb dX0_candidates_162 ?_
                      refine lv_topi (fun z123 ez123 => ?_)
                      have hz123 : 0 ≤ z123.toInt ∧ z123.toInt < 16777216 := or24 ez123 (by omega) (by omega)
                      refine lv_istore (lv' := [(7, .int z123), (11, .int 1), (10, .ref (ad (72 + (24 * b + (Int32.toNatClampNeg y8))))), (9, .int y8), (8, .int y9), (6, .int (V 59 (8 * (24 * b + (Int32.toNatClampNeg p0)) + (Int32.toNatClampNeg p1)))), (5, .int (V 58 (8 * (24 * b + (Int32.toNatClampNeg p0)) + (Int32.toNatClampNeg p1)))), (4, .int (V 60 (8 * (24 * b + (Int32.toNatClampNeg p0)) + (Int32.toNatClampNeg p1)))), (3, .ref (ad (72 + (24 * b + (Int32.toNatClampNeg p0))))), (0, .ref (ad (38 + b))), (1, .int p0), (2, .int p1)]) hx hb dX0_candidates_163 hl (by decide) rfl (fun ls hl => ?_)
                      obtain ⟨z124, ez124⟩ : ∃ y : Int32, y = y8 + 1 := ⟨_, rfl⟩
                      have hz124 : z124.toInt = y8.toInt + 1 := i_add ez124 rfl (by decide) (by omega)
                      refine lv_iinc (v := z124) (lv' := [(9, .int z124), (7, .int z123), (11, .int 1), (10, .ref (ad (72 + (24 * b + (Int32.toNatClampNeg y8))))), (8, .int y9), (6, .int (V 59 (8 * (24 * b + (Int32.toNatClampNeg p0)) + (Int32.toNatClampNeg p1)))), (5, .int (V 58 (8 * (24 * b + (Int32.toNatClampNeg p0)) + (Int32.toNatClampNeg p1)))), (4, .int (V 60 (8 * (24 * b + (Int32.toNatClampNeg p0)) + (Int32.toNatClampNeg p1)))), (3, .ref (ad (72 + (24 * b + (Int32.toNatClampNeg p0))))), (0, .ref (ad (38 + b))), (1, .int p0), (2, .int p1)]) hx hb dX0_candidates_165 hl (k := 3) rfl (by rw [ez124]; rfl) (by decide) rfl (fun ls hl => ?_)
                      refine lv_goto (tgt := 40) hx hb dX0_candidates_168 (by decide) ?_
                      have r125 : Int32.toInt 1 = 1 := by decide
                      exact ihlp11 z124 y9 z123 H locs ls (by omega) (by omega) (by omega) hP hD hS (lv_sub hl [0, 4, 1, 5, 6, 7, 8, 9, 10, 11] rfl)
                    · skip
                      have f126 : ((V 60 (8 * (24 * b + (Int32.toNatClampNeg p0)) + (Int32.toNatClampNeg p1)))).toInt ≠ 2 := b_neq rfl (by decide) c120
                      refine lv_aload hx hb dX0_candidates_146 (lv_at hl 1 rfl) ?_
                      refine va_getN (D := D) (ci := 3) (v := .int (V 53 (24 * b + (Int32.toNatClampNeg y8)))) (fs := (xfComp ad V (24 * b + (Int32.toNatClampNeg y8)))) (C := RX3) (T := TX3) (N := 13) hx hb hg inX3 hown hK hP (72 + (24 * b + (Int32.toNatClampNeg y8))) (xgComp il19) rfl 8 (by decide) (hnw.use 529 n529 rfl) (fun _ h9 => h9) rfl dX0_candidates_148 ?_
                      refine lv_iload hx hb dX0_candidates_151 (lv_at hl 3 rfl) ?_
                      refine lv_icmp_ne (tgt := 165) hx hb dX0_candidates_153 (by decide) (fun c127 => ?_) (fun c127 => ?_)
                      · skip
                        have f128 : ((V 53 (24 * b + (Int32.toNatClampNeg y8)))).toInt ≠ y9.toInt := b_neq rfl rfl c127
                        obtain ⟨z129, ez129⟩ : ∃ y : Int32, y = y8 + 1 := ⟨_, rfl⟩
                        have hz129 : z129.toInt = y8.toInt + 1 := i_add ez129 rfl (by decide) (by omega)
                        refine lv_iinc (v := z129) (lv' := [(9, .int z129), (11, .int 1), (10, .ref (ad (72 + (24 * b + (Int32.toNatClampNeg y8))))), (8, .int y9), (7, .int y10), (6, .int (V 59 (8 * (24 * b + (Int32.toNatClampNeg p0)) + (Int32.toNatClampNeg p1)))), (5, .int (V 58 (8 * (24 * b + (Int32.toNatClampNeg p0)) + (Int32.toNatClampNeg p1)))), (4, .int (V 60 (8 * (24 * b + (Int32.toNatClampNeg p0)) + (Int32.toNatClampNeg p1)))), (3, .ref (ad (72 + (24 * b + (Int32.toNatClampNeg p0))))), (0, .ref (ad (38 + b))), (1, .int p0), (2, .int p1)]) hx hb dX0_candidates_165 hl (k := 2) rfl (by rw [ez129]; rfl) (by decide) rfl (fun ls hl => ?_)
                        refine lv_goto (tgt := 40) hx hb dX0_candidates_168 (by decide) ?_
                        have r130 : Int32.toInt 1 = 1 := by decide
                        exact ihlp11 z129 y9 y10 H locs ls (by omega) (by omega) (by omega) hP hD hS (lv_sub hl [0, 3, 4, 5, 6, 7, 8, 9, 10, 11] rfl)
                      · skip
                        have f131 : ((V 53 (24 * b + (Int32.toNatClampNeg y8)))).toInt = y9.toInt := b_eq rfl rfl c127
                        refine lv_iload hx hb dX0_candidates_156 (lv_at hl 4 rfl) ?_
                        refine lv_iconst (v := 1) hx hb dX0_candidates_158 (by decide) ?_
                        refine lv_iload hx hb dX0_candidates_159 (lv_at hl 2 rfl) ?_
                        refine lv_ishl hx hb dX0_candidates_161 ?_
                        refine lv_topi (fun z132 ez132 => ?_)
                        have hz132 : 0 ≤ z132.toInt ∧ z132.toInt < 16777216 := shl1 ez132 (by omega)
                        refine lv_ior hx hb dX0_candidates_162 ?_
                        refine lv_topi (fun z133 ez133 => ?_)
                        have hz133 : 0 ≤ z133.toInt ∧ z133.toInt < 16777216 := or24 ez133 (by omega) (by omega)
                        refine lv_istore (lv' := [(7, .int z133), (11, .int 1), (10, .ref (ad (72 + (24 * b + (Int32.toNatClampNeg y8))))), (9, .int y8), (8, .int y9), (6, .int (V 59 (8 * (24 * b + (Int32.toNatClampNeg p0)) + (Int32.toNatClampNeg p1)))), (5, .int (V 58 (8 * (24 * b + (Int32.toNatClampNeg p0)) + (Int32.toNatClampNeg p1)))), (4, .int (V 60 (8 * (24 * b + (Int32.toNatClampNeg p0)) + (Int32.toNatClampNeg p1)))), (3, .ref (ad (72 + (24 * b + (Int32.toNatClampNeg p0))))), (0, .ref (ad (38 + b))), (1, .int p0), (2, .int p1)]) hx hb dX0_candidates_163 hl (by decide) rfl (fun ls hl => ?_)
                        obtain ⟨z134, ez134⟩ : ∃ y : Int32, y = y8 + 1 := ⟨_, rfl⟩
                        have hz134 : z134.toInt = y8.toInt + 1 := i_add ez134 rfl (by decide) (by omega)
                        refine lv_iinc (v := z134) (lv' := [(9, .int z134), (7, .int z133), (11, .int 1), (10, .ref (ad (72 + (24 * b + (Int32.toNatClampNeg y8))))), (8, .int y9), (6, .int (V 59 (8 * (24 * b + (Int32.toNatClampNeg p0)) + (Int32.toNatClampNeg p1)))), (5, .int (V 58 (8 * (24 * b + (Int32.toNatClampNeg p0)) + (Int32.toNatClampNeg p1)))), (4, .int (V 60 (8 * (24 * b + (Int32.toNatClampNeg p0)) + (Int32.toNatClampNeg p1)))), (3, .ref (ad (72 + (24 * b + (Int32.toNatClampNeg p0))))), (0, .ref (ad (38 + b))), (1, .int p0), (2, .int p1)]) hx hb dX0_candidates_165 hl (k := 3) rfl (by rw [ez134]; rfl) (by decide) rfl (fun ls hl => ?_)
                        refine lv_goto (tgt := 40) hx hb dX0_candidates_168 (by decide) ?_
                        have r135 : Int32.toInt 1 = 1 := by decide
                        exact ihlp11 z134 y9 z133 H locs ls (by omega) (by omega) (by omega) hP hD hS (lv_sub hl [0, 4, 1, 5, 6, 7, 8, 9, 10, 11] rfl)
                  · skip
                    have f136 : y9.toInt < ((V 53 (24 * b + (Int32.toNatClampNeg y8)))).toInt := b_nle rfl rfl c118
                    refine lv_aload hx hb dX0_candidates_130 (lv_at hl 1 rfl) ?_
                    refine va_getN (D := D) (ci := 3) (v := .int (V 53 (24 * b + (Int32.toNatClampNeg y8)))) (fs := (xfComp ad V (24 * b + (Int32.toNatClampNeg y8)))) (C := RX3) (T := TX3) (N := 13) hx hb hg inX3 hown hK hP (72 + (24 * b + (Int32.toNatClampNeg y8))) (xgComp il19) rfl 8 (by decide) (hnw.use 529 n529 rfl) (fun _ h9 => h9) rfl dX0_candidates_132 ?_
                    refine lv_istore (lv' := [(8, .int (V 53 (24 * b + (Int32.toNatClampNeg y8)))), (11, .int 1), (10, .ref (ad (72 + (24 * b + (Int32.toNatClampNeg y8))))), (9, .int y8), (7, .int y10), (6, .int (V 59 (8 * (24 * b + (Int32.toNatClampNeg p0)) + (Int32.toNatClampNeg p1)))), (5, .int (V 58 (8 * (24 * b + (Int32.toNatClampNeg p0)) + (Int32.toNatClampNeg p1)))), (4, .int (V 60 (8 * (24 * b + (Int32.toNatClampNeg p0)) + (Int32.toNatClampNeg p1)))), (3, .ref (ad (72 + (24 * b + (Int32.toNatClampNeg p0))))), (0, .ref (ad (38 + b))), (1, .int p0), (2, .int p1)]) hx hb dX0_candidates_135 hl (by decide) rfl (fun ls hl => ?_)
                    refine lv_iconst (v := 0) hx hb dX0_candidates_137 (by decide) ?_
                    refine lv_istore (lv' := [(7, .int 0), (8, .int (V 53 (24 * b + (Int32.toNatClampNeg y8)))), (11, .int 1), (10, .ref (ad (72 + (24 * b + (Int32.toNatClampNeg y8))))), (9, .int y8), (6, .int (V 59 (8 * (24 * b + (Int32.toNatClampNeg p0)) + (Int32.toNatClampNeg p1)))), (5, .int (V 58 (8 * (24 * b + (Int32.toNatClampNeg p0)) + (Int32.toNatClampNeg p1)))), (4, .int (V 60 (8 * (24 * b + (Int32.toNatClampNeg p0)) + (Int32.toNatClampNeg p1)))), (3, .ref (ad (72 + (24 * b + (Int32.toNatClampNeg p0))))), (0, .ref (ad (38 + b))), (1, .int p0), (2, .int p1)]) hx hb dX0_candidates_138 hl (by decide) rfl (fun ls hl => ?_)
                    refine lv_iload hx hb dX0_candidates_140 (lv_at hl 7 rfl) ?_
                    refine lv_iconst (v := 2) hx hb dX0_candidates_142 (by decide) ?_
                    refine lv_icmp_eq (tgt := 156) hx hb dX0_candidates_143 (by decide) (fun c137 => ?_) (fun c137 => ?_)
                    · skip
                      have f138 : ((V 60 (8 * (24 * b + (Int32.toNatClampNeg p0)) + (Int32.toNatClampNeg p1)))).toInt = 2 := b_eq rfl (by decide) c137
                      refine lv_iload hx hb dX0_candidates_156 (lv_at hl 0 rfl) ?_
                      refine lv_iconst (v := 1) hx hb dX0_candidates_158 (by decide) ?_
                      refine lv_iload hx hb dX0_candidates_159 (lv_at hl 4 rfl) ?_
                      refine lv_ishl hx hb dX0_candidates_161 ?_
                      refine lv_topi (fun z139 ez139 => ?_)
                      have hz139 : 0 ≤ z139.toInt ∧ z139.toInt < 16777216 := shl1 ez139 (by omega)
                      refine lv_ior hx hb dX0_candidates_162 ?_
                      refine lv_topi (fun z140 ez140 => ?_)
                      have hz140 : 0 ≤ z140.toInt ∧ z140.toInt < 16777216 := or24 ez140 (by decide) (by omega)
                      refine lv_istore (lv' := [(7, .int z140), (8, .int (V 53 (24 * b + (Int32.toNatClampNeg y8)))), (11, .int 1), (10, .ref (ad (72 + (24 * b + (Int32.toNatClampNeg y8))))), (9, .int y8), (6, .int (V 59 (8 * (24 * b + (Int32.toNatClampNeg p0)) + (Int32.toNatClampNeg p1)))), (5, .int (V 58 (8 * (24 * b + (Int32.toNatClampNeg p0)) + (Int32.toNatClampNeg p1)))), (4, .int (V 60 (8 * (24 * b + (Int32.toNatClampNeg p0)) + (Int32.toNatClampNeg p1)))), (3, .ref (ad (72 + (24 * b + (Int32.toNatClampNeg p0))))), (0, .ref (ad (38 + b))), (1, .int p0), (2, .int p1)]) hx hb dX0_candidates_163 hl (by decide) rfl (fun ls hl => ?_)
                      obtain ⟨z141, ez141⟩ : ∃ y : Int32, y = y8 + 1 := ⟨_, rfl⟩
                      have hz141 : z141.toInt = y8.toInt + 1 := i_add ez141 rfl (by decide) (by omega)
                      refine lv_iinc (v := z141) (lv' := [(9, .int z141), (7, .int z140), (8, .int (V 53 (24 * b + (Int32.toNatClampNeg y8)))), (11, .int 1), (10, .ref (ad (72 + (24 * b + (Int32.toNatClampNeg y8))))), (6, .int (V 59 (8 * (24 * b + (Int32.toNatClampNeg p0)) + (Int32.toNatClampNeg p1)))), (5, .int (V 58 (8 * (24 * b + (Int32.toNatClampNeg p0)) + (Int32.toNatClampNeg p1)))), (4, .int (V 60 (8 * (24 * b + (Int32.toNatClampNeg p0)) + (Int32.toNatClampNeg p1)))), (3, .ref (ad (72 + (24 * b + (Int32.toNatClampNeg p0))))), (0, .ref (ad (38 + b))), (1, .int p0), (2, .int p1)]) hx hb dX0_candidates_165 hl (k := 4) rfl (by rw [ez141]; rfl) (by decide) rfl (fun ls hl => ?_)
                      refine lv_goto (tgt := 40) hx hb dX0_candidates_168 (by decide) ?_
                      have r142 : Int32.toInt 1 = 1 := by decide
                      exact ihlp11 z141 (V 53 (24 * b + (Int32.toNatClampNeg y8))) z140 H locs ls (by omega) (by omega) (by omega) hP hD hS (lv_sub hl [0, 2, 1, 5, 6, 7, 8, 9, 10, 11] rfl)
                    · skip
                      have f143 : ((V 60 (8 * (24 * b + (Int32.toNatClampNeg p0)) + (Int32.toNatClampNeg p1)))).toInt ≠ 2 := b_neq rfl (by decide) c137
                      refine lv_aload hx hb dX0_candidates_146 (lv_at hl 3 rfl) ?_
                      refine va_getN (D := D) (ci := 3) (v := .int (V 53 (24 * b + (Int32.toNatClampNeg y8)))) (fs := (xfComp ad V (24 * b + (Int32.toNatClampNeg y8)))) (C := RX3) (T := TX3) (N := 13) hx hb hg inX3 hown hK hP (72 + (24 * b + (Int32.toNatClampNeg y8))) (xgComp il19) rfl 8 (by decide) (hnw.use 529 n529 rfl) (fun _ h9 => h9) rfl dX0_candidates_148 ?_
                      refine lv_iload hx hb dX0_candidates_151 (lv_at hl 1 rfl) ?_
                      refine lv_icmp_ne (tgt := 165) hx hb dX0_candidates_153 (by decide) (fun c144 => ?_) (fun c144 => ?_)
                      · skip
                        have f145 : ((V 53 (24 * b + (Int32.toNatClampNeg y8)))).toInt ≠ ((V 53 (24 * b + (Int32.toNatClampNeg y8)))).toInt := b_neq rfl rfl c144
                        obtain ⟨z146, ez146⟩ : ∃ y : Int32, y = y8 + 1 := ⟨_, rfl⟩
                        have hz146 : z146.toInt = y8.toInt + 1 := i_add ez146 rfl (by decide) (by omega)
                        refine lv_iinc (v := z146) (lv' := [(9, .int z146), (7, .int 0), (8, .int (V 53 (24 * b + (Int32.toNatClampNeg y8)))), (11, .int 1), (10, .ref (ad (72 + (24 * b + (Int32.toNatClampNeg y8))))), (6, .int (V 59 (8 * (24 * b + (Int32.toNatClampNeg p0)) + (Int32.toNatClampNeg p1)))), (5, .int (V 58 (8 * (24 * b + (Int32.toNatClampNeg p0)) + (Int32.toNatClampNeg p1)))), (4, .int (V 60 (8 * (24 * b + (Int32.toNatClampNeg p0)) + (Int32.toNatClampNeg p1)))), (3, .ref (ad (72 + (24 * b + (Int32.toNatClampNeg p0))))), (0, .ref (ad (38 + b))), (1, .int p0), (2, .int p1)]) hx hb dX0_candidates_165 hl (k := 4) rfl (by rw [ez146]; rfl) (by decide) rfl (fun ls hl => ?_)
                        refine lv_goto (tgt := 40) hx hb dX0_candidates_168 (by decide) ?_
                        have r147 : Int32.toInt 0 = 0 := by decide
                        have r148 : Int32.toInt 1 = 1 := by decide
                        exact ihlp11 z146 (V 53 (24 * b + (Int32.toNatClampNeg y8))) 0 H locs ls (by omega) (by decide) (by omega) hP hD hS (lv_sub hl [0, 2, 1, 5, 6, 7, 8, 9, 10, 11] rfl)
                      · skip
                        have f149 : ((V 53 (24 * b + (Int32.toNatClampNeg y8)))).toInt = ((V 53 (24 * b + (Int32.toNatClampNeg y8)))).toInt := b_eq rfl rfl c144
                        refine lv_iload hx hb dX0_candidates_156 (lv_at hl 0 rfl) ?_
                        refine lv_iconst (v := 1) hx hb dX0_candidates_158 (by decide) ?_
                        refine lv_iload hx hb dX0_candidates_159 (lv_at hl 4 rfl) ?_
                        refine lv_ishl hx hb dX0_candidates_161 ?_
                        refine lv_topi (fun z150 ez150 => ?_)
                        have hz150 : 0 ≤ z150.toInt ∧ z150.toInt < 16777216 := shl1 ez150 (by omega)
                        refine lv_ior hx hb dX0_candidates_162 ?_
                        refine lv_topi (fun z151 ez151 => ?_)
                        have hz151 : 0 ≤ z151.toInt ∧ z151.toInt < 16777216 := or24 ez151 (by decide) (by omega)
                        refine lv_istore (lv' := [(7, .int z151), (8, .int (V 53 (24 * b + (Int32.toNatClampNeg y8)))), (11, .int 1), (10, .ref (ad (72 + (24 * b + (Int32.toNatClampNeg y8))))), (9, .int y8), (6, .int (V 59 (8 * (24 * b + (Int32.toNatClampNeg p0)) + (Int32.toNatClampNeg p1)))), (5, .int (V 58 (8 * (24 * b + (Int32.toNatClampNeg p0)) + (Int32.toNatClampNeg p1)))), (4, .int (V 60 (8 * (24 * b + (Int32.toNatClampNeg p0)) + (Int32.toNatClampNeg p1)))), (3, .ref (ad (72 + (24 * b + (Int32.toNatClampNeg p0))))), (0, .ref (ad (38 + b))), (1, .int p0), (2, .int p1)]) hx hb dX0_candidates_163 hl (by decide) rfl (fun ls hl => ?_)
                        obtain ⟨z152, ez152⟩ : ∃ y : Int32, y = y8 + 1 := ⟨_, rfl⟩
                        have hz152 : z152.toInt = y8.toInt + 1 := i_add ez152 rfl (by decide) (by omega)
                        refine lv_iinc (v := z152) (lv' := [(9, .int z152), (7, .int z151), (8, .int (V 53 (24 * b + (Int32.toNatClampNeg y8)))), (11, .int 1), (10, .ref (ad (72 + (24 * b + (Int32.toNatClampNeg y8))))), (6, .int (V 59 (8 * (24 * b + (Int32.toNatClampNeg p0)) + (Int32.toNatClampNeg p1)))), (5, .int (V 58 (8 * (24 * b + (Int32.toNatClampNeg p0)) + (Int32.toNatClampNeg p1)))), (4, .int (V 60 (8 * (24 * b + (Int32.toNatClampNeg p0)) + (Int32.toNatClampNeg p1)))), (3, .ref (ad (72 + (24 * b + (Int32.toNatClampNeg p0))))), (0, .ref (ad (38 + b))), (1, .int p0), (2, .int p1)]) hx hb dX0_candidates_165 hl (k := 4) rfl (by rw [ez152]; rfl) (by decide) rfl (fun ls hl => ?_)
                        refine lv_goto (tgt := 40) hx hb dX0_candidates_168 (by decide) ?_
                        have r153 : Int32.toInt 1 = 1 := by decide
                        exact ihlp11 z152 (V 53 (24 * b + (Int32.toNatClampNeg y8))) z151 H locs ls (by omega) (by omega) (by omega) hP hD hS (lv_sub hl [0, 2, 1, 5, 6, 7, 8, 9, 10, 11] rfl)
              · skip
                have f154 : z103.toInt = 0 := b_eq rfl (by decide) c106
                refine lv_goto (tgt := 165) hx hb dX0_candidates_111 (by decide) ?_
                obtain ⟨z155, ez155⟩ : ∃ y : Int32, y = y8 + 1 := ⟨_, rfl⟩
                have hz155 : z155.toInt = y8.toInt + 1 := i_add ez155 rfl (by decide) (by omega)
                refine lv_iinc (v := z155) (lv' := [(9, .int z155), (11, .int 1), (10, .ref (ad (72 + (24 * b + (Int32.toNatClampNeg y8))))), (8, .int y9), (7, .int y10), (6, .int (V 59 (8 * (24 * b + (Int32.toNatClampNeg p0)) + (Int32.toNatClampNeg p1)))), (5, .int (V 58 (8 * (24 * b + (Int32.toNatClampNeg p0)) + (Int32.toNatClampNeg p1)))), (4, .int (V 60 (8 * (24 * b + (Int32.toNatClampNeg p0)) + (Int32.toNatClampNeg p1)))), (3, .ref (ad (72 + (24 * b + (Int32.toNatClampNeg p0))))), (0, .ref (ad (38 + b))), (1, .int p0), (2, .int p1)]) hx hb dX0_candidates_165 hl (k := 2) rfl (by rw [ez155]; rfl) (by decide) rfl (fun ls hl => ?_)
                refine lv_goto (tgt := 40) hx hb dX0_candidates_168 (by decide) ?_
                have r156 : Int32.toInt 1 = 1 := by decide
                exact ihlp11 z155 y9 y10 H locs ls (by omega) (by omega) (by omega) hP hD hS (lv_sub hl [0, 3, 4, 5, 6, 7, 8, 9, 10, 11] rfl)
  have r157 : Int32.toInt 0 = 0 := by decide
  exact lp11 ((24 - (Int32.toInt 0) + 1 : Int).toNat) 0 0 0 H locs ls (by decide) (by decide) (by omega) hP hD hS (lv_sub hl [0, 1, 2, 3, 4, 5, 6, 7, 8, 9] rfl)
abbrev r_x_firstCandidate2 : Room := { frames := 2, cells := 0, slots := 0, locals := 53 }
abbrev q_x_firstCandidate2 (D : va_G) (ks : KS) (ad : Nat → Nat) (kk : Nat → ClassId) (V : Vf) (L : Lf) (Z : XZ) (p0 : Int32) (p1 : Int32) (b : Nat) (A : Nat → Prop) : Array Value → State → Outcome → State → Prop := va_Qi (fun (r : Int32) (_ : Unit) => ((-1) ≤ r.toInt ∧ r.toInt ≤ 23)) (fun _ t => gq D A (xw ad kk V L Z) (xty kk Z) t) A
set_option maxHeartbeats 4000000 in
set_option maxRecDepth 100000 in
theorem x_firstCandidate2 (l : Launch) (D : va_G) (ks : KS) (sz : Nat) (ad : Nat → Nat) (kk : Nat → ClassId) (V : Vf) (L : Lf) (Z : XZ) (p0 : Int32) (p1 : Int32) (b : Nat) (hMV : rgd bX V) (rg_p0 : 0 ≤ p0.toInt ∧ p0.toInt ≤ 23) (rg_p1 : 0 ≤ p1.toInt ∧ p1.toInt ≤ 7) (hb2 : b < 2)  : Met l yX0_firstCandidate (Cond.code yX0_firstCandidate cX0_firstCandidate 4 (some .int) :: GW) r_x_firstCandidate2 (va_Pc [.ref (ad (38 + b)), .int p0, .int p1] (gp D ks (xw ad kk V L Z) (xty kk Z) sz)) (q_x_firstCandidate2 D ks ad kk V L Z p0 p1 b (va_A (xw ad kk V L Z) sz)) 0 0 (va_A (xw ad kk V L Z) sz) := by
  refine g_met (q_x_firstCandidate2 D ks ad kk V L Z p0 p1 b) (by decide) (Nat.le_of_ble_eq_true rfl) ?_
  intro p e s m below meth c A ls H locs hx hb hr hml hown hg hlocks hin hnw hgk hP hK hD hS hA hl
  have hown : s.vm.findClass RX0 = some m.cls := hown
  have hl : lv_has ls 4 [(0, .ref (ad (38 + b))), (1, .int p0), (2, .int p1)] := hl
  have hP : va_P D vwCl (xw ad kk V L Z) H := hP
  have hD : va_D A (xw ad kk V L Z) := hD
  have hK : va_K D vwCl (xty kk Z) s := hK
  refine lv_aload_n hx hb dX0_firstCandidate_0 rfl (lv_at hl 0 rfl) ?_
  refine lv_iload_n hx hb dX0_firstCandidate_1 rfl (lv_at hl 1 rfl) ?_
  refine lv_iload_n hx hb dX0_firstCandidate_2 rfl (lv_at hl 2 rfl) ?_
  refine gA_int (gA_runV (As := [.int p0, .int p1]) (rest := []) (ci := 0) (q0 := (38 + b)) hx hb hml hown hg hP hD hK hS hA hnw hgk (x_candidates2 l D ks H.size ad kk V L Z p0 p1 (b) hMV (by omega) (by omega) (show b < 2 from by omega)) w1451 w1082 w1083 w167 w1084 rfl (xgBook hb2) hdV_yX0_candidates ⟨Nat.le_of_ble_eq_true rfl, Nat.le_of_ble_eq_true rfl⟩ rfl hl.1 rfl (Nat.le_of_ble_eq_true rfl) dX0_firstCandidate_3 ⟨Nat.le_of_ble_eq_true rfl, Nat.le_of_ble_eq_true rfl⟩) hP hD hK hS hA (fun z1 u2 H locs w3 hP hD hK hS => ?_)
  have rgz1 := w3
  have rgz1 : 0 ≤ z1.toInt ∧ z1.toInt ≤ 16777215 := rgz1
  refine lv_istore_n (lv' := [(3, .int z1), (0, .ref (ad (38 + b))), (1, .int p0), (2, .int p1)]) hx hb dX0_firstCandidate_6 rfl hl (by decide) rfl (fun ls hl => ?_)
  refine lv_iload_n hx hb dX0_firstCandidate_7 rfl (lv_at hl 0 rfl) ?_
  refine lv_if_ne (tgt := 15) hx hb dX0_firstCandidate_8 (by decide) (fun c4 => ?_) (fun c4 => ?_)
  · skip
    have f5 : z1.toInt ≠ 0 := b_neq rfl (by decide) c4
    refine lv_iload_n hx hb dX0_firstCandidate_15 rfl (lv_at hl 0 rfl) ?_
    refine gE_int (g_runS (As := [.int z1]) (rest := []) (wc := []) (tc := []) hx hb hml hown hg gw_self hP hD hK hS hA hnw hgk [] [] (by decide) rfl rfl (x_nTZ2 l D ks H.size z1 ) w1452 w1143 w175 w1144 hdS_yJ6_numberOfTrailingZeros_0f7a4 ⟨Nat.le_of_ble_eq_true rfl, Nat.le_of_ble_eq_true rfl⟩ rfl hl.1 rfl (Nat.le_of_ble_eq_true rfl) dX0_firstCandidate_16 ⟨Nat.le_of_ble_eq_true rfl, Nat.le_of_ble_eq_true rfl⟩) hP hD hK hS hA (fun z6 u7 H locs w8 hP hD hK hS => ?_)
    obtain ⟨rgz6, t9⟩ := w8
    have rgz6 : 0 ≤ z6.toInt ∧ z6.toInt ≤ 32 := rgz6
    have t9 : ∀ m : Nat, 0 < z1.toInt → z1.toInt < ((2 ^ m : Nat) : Int) → z6.toInt < (m : Int) := t9
    have q24 : ((2 ^ 24 : Nat) : Int) = 16777216 := by decide
    have hn24 := t9 24 (by omega) (by omega)
    exact W.iret (v := z6) hx hb hr (fun t ht hW => ⟨⟨z6, (), rfl, (show (-1) ≤ z6.toInt ∧ z6.toInt ≤ 23 from by omega), by rw [ht]; exact hP, va_K.moved hW.alike hK, hD⟩, hS.F ht⟩) hS.2.2 dX0_firstCandidate_19
  · skip
    have f10 : z1.toInt = 0 := b_eq rfl (by decide) c4
    refine lv_iconst (v := (-1)) hx hb dX0_firstCandidate_11 (by decide) ?_
    refine lv_goto (tgt := 19) hx hb dX0_firstCandidate_12 (by decide) ?_
    exact W.iret (v := (-1)) hx hb hr (fun t ht hW => ⟨⟨(-1), (), rfl, (by decide), by rw [ht]; exact hP, va_K.moved hW.alike hK, hD⟩, hS.F ht⟩) hS.2.2 dX0_firstCandidate_19
