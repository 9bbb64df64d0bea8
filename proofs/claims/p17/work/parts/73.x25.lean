section
/-! bits -/
theorem bn_of {x : Int32} {n : Nat} (h : 0 ≤ x.toInt ∧ x.toInt < (n : Int)) : x.toBitVec.toNat < n ∧ (x.toBitVec.toNat : Int) = x.toInt := by
  have h2 : x.toInt = x.toBitVec.toInt := rfl
  have h3 := BitVec.toInt_eq_toNat_cond x.toBitVec
  have h4 := x.toBitVec.isLt
  rw [h2] at h ⊢
  rw [h3] at h ⊢
  split at h <;> split <;> omega
theorem bn_to {x : Int32} {n : Nat} (h : x.toBitVec.toNat < n) (hn : n ≤ 2147483648) : 0 ≤ x.toInt ∧ x.toInt < (n : Int) ∧ x.toInt = (x.toBitVec.toNat : Int) := by
  have h2 : x.toInt = x.toBitVec.toInt := rfl
  have h3 : x.toBitVec.toInt = (x.toBitVec.toNat : Int) := BitVec.toInt_eq_toNat_of_lt (by omega)
  omega
theorem or24 {x y z : Int32} (e : z = x ||| y) (hx : 0 ≤ x.toInt ∧ x.toInt < 16777216) (hy : 0 ≤ y.toInt ∧ y.toInt < 16777216) : 0 ≤ z.toInt ∧ z.toInt < 16777216 := by
  have ax := (bn_of (x := x) (n := 2 ^ 24) hx).1
  have ay := (bn_of (x := y) (n := 2 ^ 24) hy).1
  have az : z.toBitVec.toNat < 2 ^ 24 := by
    rw [e]
    show (x.toBitVec ||| y.toBitVec).toNat < 2 ^ 24
    rw [BitVec.toNat_or]
    exact Nat.or_lt_two_pow ax ay
  have b := bn_to az (by decide)
  exact ⟨b.1, b.2.1⟩
theorem shl_all : ∀ n : Fin 24, 0 ≤ ((1 : Int32) <<< (nI n.val &&& 31)).toInt ∧ ((1 : Int32) <<< (nI n.val &&& 31)).toInt < 16777216 := by decide +kernel
theorem shl1 {k z : Int32} (e : z = 1 <<< (k &&& 31)) (h : 0 ≤ k.toInt ∧ k.toInt ≤ 23) : 0 ≤ z.toInt ∧ z.toInt < 16777216 := by
  have c := i_clamp (x := k) rfl h.1
  have hk : k = nI (Int32.toNatClampNeg k) := Int32.toInt_inj.mp (by rw [nI_toInt (by omega)]; omega)
  rw [e, hk]
  exact shl_all ⟨Int32.toNatClampNeg k, by omega⟩
theorem and_left {x y z : Int32} (e : z = x &&& y) (hx : 0 ≤ x.toInt) : 0 ≤ z.toInt ∧ z.toInt ≤ x.toInt := by
  have f := i_full x
  have ax := bn_of (x := x) (n := 2147483648) ⟨hx, by omega⟩
  have az : z.toBitVec.toNat ≤ x.toBitVec.toNat := by
    rw [e]
    show (x.toBitVec &&& y.toBitVec).toNat ≤ _
    rw [BitVec.toNat_and]
    exact Nat.and_le_left
  have b := bn_to (x := z) (n := 2147483648) (by omega) (by decide)
  omega
theorem ushr_n {x y z : Int32} (e : z = (x.toUInt32 >>> (y.toUInt32 &&& Int32.toUInt32 31)).toInt32) (hx : 0 ≤ x.toInt) {k : Nat} (hk : y.toInt = (k : Int)) (h32 : k < 32) : z.toInt = ((x.toBitVec.toNat / 2 ^ k : Nat) : Int) ∧ (x.toBitVec.toNat : Int) = x.toInt := by
  have f := i_full x
  have ax := bn_of (x := x) (n := 2147483648) ⟨hx, by omega⟩
  have ay := bn_of (x := y) (n := 32) ⟨by omega, by omega⟩
  have hyk : y.toBitVec.toNat = k := by (first | exact om_c4e1e142d663 hk ay.2 | omega)
  have hz : z.toBitVec.toNat = x.toBitVec.toNat / 2 ^ k := by
    rw [e]
    show (x.toUInt32 >>> (y.toUInt32 &&& Int32.toUInt32 31)).toNat = _
    rw [UInt32.toNat_shiftRight, UInt32.toNat_and]
    have e1 : (Int32.toUInt32 31).toNat = 2 ^ 5 - 1 := by decide
    have e2 : y.toUInt32.toNat = k := hyk
    have e3 : x.toUInt32.toNat = x.toBitVec.toNat := rfl
    rw [e1, Nat.and_two_pow_sub_one_eq_mod, e2, e3, Nat.mod_eq_of_lt (show k < 2 ^ 5 from h32), Nat.mod_eq_of_lt h32, Nat.shiftRight_eq_div_pow]
  have b := bn_to (x := z) (n := 2147483648) (by rw [hz]; exact Nat.lt_of_le_of_lt (Nat.div_le_self _ _) ax.1) (by decide)
  rw [b.2.2, hz]
  exact ⟨rfl, ax.2⟩
theorem ushr_l {x y z : Int32} {P : Nat} (e : z = (x.toUInt32 >>> (y.toUInt32 &&& Int32.toUInt32 31)).toInt32) (hx : 0 ≤ x.toInt) {k : Nat} (hk : y.toInt = (k : Int)) (h32 : k < 32) (hP : 2 ^ k = P) : z.toInt = x.toInt / (P : Int) := by
  have h := ushr_n e hx hk h32
  rw [h.1, hP, ← h.2]
  exact Int.natCast_ediv _ _
theorem ushr_24 {x y z : Int32} (e : z = (x.toUInt32 >>> (y.toUInt32 &&& Int32.toUInt32 31)).toInt32) (hx : 0 ≤ x.toInt ∧ x.toInt < 16777216) (hy : 0 ≤ y.toInt ∧ y.toInt < 24) : 0 ≤ z.toInt ∧ z.toInt < ((2 ^ (24 - y.toInt.toNat) : Nat) : Int) := by
  have h := ushr_n (k := y.toInt.toNat) e hx.1 (by omega) (by omega)
  have hX : x.toBitVec.toNat < 2 ^ 24 := by have := h.2; omega
  have q : x.toBitVec.toNat / 2 ^ y.toInt.toNat < 2 ^ (24 - y.toInt.toNat) := by
    rw [Nat.div_lt_iff_lt_mul (Nat.two_pow_pos _), ← Nat.pow_add, show 24 - y.toInt.toNat + y.toInt.toNat = 24 from by omega]
    exact hX
  rw [h.1]
  exact ⟨Int.natCast_nonneg _, Int.ofNat_lt.mpr q⟩
theorem ushr_0 {x y z : Int32} (e : z = (x.toUInt32 >>> (y.toUInt32 &&& Int32.toUInt32 31)).toInt32) (hx : 0 ≤ x.toInt ∧ x.toInt < 16777216) (hy : 24 ≤ y.toInt ∧ y.toInt < 32) : z.toInt = 0 := by
  have h := ushr_n (k := y.toInt.toNat) e hx.1 (by omega) (by omega)
  have hX : x.toBitVec.toNat < 2 ^ 24 := by have := h.2; omega
  have q : 2 ^ 24 ≤ 2 ^ y.toInt.toNat := Nat.pow_le_pow_right (by decide) (by omega)
  rw [h.1, Nat.div_eq_of_lt (by omega)]
  rfl
theorem ntz_y {x a c y : Int32} (e1 : a = x ^^^ (-1)) (e2 : c = x - 1) (e3 : y = a &&& c) (hx : 0 < x.toInt) : 0 ≤ y.toInt ∧ y.toInt < x.toInt ∧ ∀ m : Nat, x.toInt < ((2 ^ m : Nat) : Int) → x.toInt + y.toInt < ((2 ^ m : Nat) : Int) := by
  have f := i_full x
  have ec : c.toInt = x.toInt - 1 := i_sub e2 rfl (by decide) (by (first | exact om_83e9854dafe1 hx f.2 | omega))
  have ax := bn_of (x := x) (n := 2147483648) ⟨by omega, by omega⟩
  have ac := bn_of (x := c) (n := 2147483648) ⟨by omega, by omega⟩
  have ey : y.toBitVec = (x.toBitVec ^^^ BitVec.allOnes 32) &&& c.toBitVec := by rw [e3, e1]; rfl
  have az : y.toBitVec.toNat ≤ c.toBitVec.toNat := by
    rw [ey, BitVec.toNat_and]
    exact Nat.and_le_right
  have b := bn_to (x := y) (n := 2147483648) (by omega) (by decide)
  have hz : x.toBitVec &&& y.toBitVec = 0#32 := by
    rw [ey]
    ext i hi
    rw [BitVec.getElem_and, BitVec.getElem_and, BitVec.getElem_xor, BitVec.getElem_allOnes, BitVec.getElem_zero]
    generalize x.toBitVec[i] = u
    generalize c.toBitVec[i] = v
    cases u <;> cases v <;> rfl
  refine ⟨b.1, by omega, fun m hm => ?_⟩
  have s := congrArg BitVec.toNat (BitVec.add_eq_or_of_and_eq_zero x.toBitVec y.toBitVec hz)
  rw [BitVec.toNat_add, BitVec.toNat_or, Nat.mod_eq_of_lt (by omega)] at s
  have hX : x.toBitVec.toNat < 2 ^ m := by omega
  have o := Nat.or_lt_two_pow hX (show y.toBitVec.toNat < 2 ^ m by omega)
  omega
theorem ntz_k {k m P : Nat} {x y : Int} (hP : 2 ^ k = P) (h1 : (P : Int) ≤ y) (h2 : x + y < ((2 ^ m : Nat) : Int)) (h3 : y < x) : k + 1 < m := by
  rcases Nat.lt_or_ge (k + 1) m with h | h
  · exact h
  · exfalso
    have q : 2 ^ m ≤ 2 ^ (k + 1) := Nat.pow_le_pow_right (by decide) h
    have q2 : 2 ^ (k + 1) = 2 * P := by rw [Nat.pow_succ, hP, Nat.mul_comm]
    omega
theorem ntz_0 {m : Nat} {x : Int} (h0 : 0 < x) (h : x < ((2 ^ m : Nat) : Int)) : 0 < m := by
  rcases Nat.eq_zero_or_pos m with h2 | h2
  · subst h2
    have : ((2 ^ 0 : Nat) : Int) = 1 := by decide
    omega
  · exact h2


abbrev r_x_nTZ2 : Room := { frames := 0, cells := 0, slots := 0, locals := 0 }
abbrev q_x_nTZ2 (D : va_G) (p0 : Int32) (A : Nat → Prop) : Array Value → State → Outcome → State → Prop := va_Qi (fun (r : Int32) (_ : Unit) => (0 ≤ r.toInt ∧ r.toInt ≤ 32) ∧ (∀ m : Nat, 0 < p0.toInt → p0.toInt < ((2 ^ m : Nat) : Int) → r.toInt < (m : Int))) (fun _ t => gq D A [] [] t) A
set_option maxHeartbeats 4000000 in
set_option maxRecDepth 100000 in
theorem x_nTZ2 (l : Launch) (D : va_G) (ks : KS) (sz : Nat) (p0 : Int32)  : Met l yJ6_numberOfTrailingZeros_0f7a4 (Cond.code yJ6_numberOfTrailingZeros_0f7a4 cJ6_numberOfTrailingZeros_0f7a4 2 (some .int) :: GW) r_x_nTZ2 (va_Pc [.int p0] (gp D ks ([]) ([]) sz)) (q_x_nTZ2 D p0 (va_A ([]) sz)) 0 0 (va_A ([]) sz) := by
  refine g_met (q_x_nTZ2 D p0) (by decide) (Nat.le_of_ble_eq_true rfl) ?_
  intro p e s m below meth c A ls H locs hx hb hr hml hown hg hlocks hin hnw hgk hP hK hD hS hA hl
  have hown : s.vm.findClass RJ6 = some m.cls := hown
  have hl : lv_has ls 2 [(0, .int p0)] := hl
  refine lv_iload_n hx hb dJ6_numberOfTrailingZeros_0f7a4_0 rfl (lv_at hl 0 rfl) ?_
  refine lv_iconst (v := (-1)) hx hb dJ6_numberOfTrailingZeros_0f7a4_1 (by decide) ?_
  refine lv_ixor hx hb dJ6_numberOfTrailingZeros_0f7a4_2 ?_
  refine lv_topi (fun z1 ez1 => ?_)
  refine lv_iload_n hx hb dJ6_numberOfTrailingZeros_0f7a4_3 rfl (lv_at hl 0 rfl) ?_
  refine lv_iconst (v := 1) hx hb dJ6_numberOfTrailingZeros_0f7a4_4 (by decide) ?_
  refine lv_isub hx hb dJ6_numberOfTrailingZeros_0f7a4_5 ?_
  have r2 := i_full p0
  refine lv_topi (fun z3 ez3 => ?_)
  have hz3 : Imp (-2147483648 ≤ p0.toInt - 1 ∧ p0.toInt - 1 ≤ 2147483647) (z3.toInt = p0.toInt - 1) := Imp.mk (fun hp => i_sub ez3 rfl (by decide) hp)
  refine lv_iand hx hb dJ6_numberOfTrailingZeros_0f7a4_6 ?_
  refine lv_topi (fun z4 ez4 => ?_)
  have nyf := i_full z4
  have nty : 0 < p0.toInt → _ := fun h => ntz_y ez1 ez3 ez4 h
  refine lv_istore_n (lv' := [(0, .int z4)]) hx hb dJ6_numberOfTrailingZeros_0f7a4_7 rfl hl (by decide) rfl (fun ls hl => ?_)
  refine lv_iload_n hx hb dJ6_numberOfTrailingZeros_0f7a4_8 rfl (lv_at hl 0 rfl) ?_
  refine lv_if_gt (tgt := 17) hx hb dJ6_numberOfTrailingZeros_0f7a4_9 (by decide) (fun c5 => ?_) (fun c5 => ?_)
  · skip
    have f6 : 0 < z4.toInt := b_lt (by decide) rfl c5
    refine lv_iconst (v := 1) hx hb dJ6_numberOfTrailingZeros_0f7a4_17 (by decide) ?_
    refine lv_istore_n (lv' := [(1, .int 1), (0, .int z4)]) hx hb dJ6_numberOfTrailingZeros_0f7a4_18 rfl hl (by decide) rfl (fun ls hl => ?_)
    refine lv_iload_n hx hb dJ6_numberOfTrailingZeros_0f7a4_19 rfl (lv_at hl 1 rfl) ?_
    refine lv_ldcw (v := 65536) hx hb hown (hg _ w1145) dJ6_numberOfTrailingZeros_0f7a4_20 ?_
    refine lv_icmp_le (tgt := 34) hx hb dJ6_numberOfTrailingZeros_0f7a4_23 (by decide) (fun c7 => ?_) (fun c7 => ?_)
    · skip
      have f8 : z4.toInt ≤ 65536 := b_le rfl (by decide) c7
      refine lv_iload_n hx hb dJ6_numberOfTrailingZeros_0f7a4_34 rfl (lv_at hl 1 rfl) ?_
      refine lv_sipush (v := 256) hx hb dJ6_numberOfTrailingZeros_0f7a4_35 (by decide) ?_
      refine lv_icmp_le (tgt := 49) hx hb dJ6_numberOfTrailingZeros_0f7a4_38 (by decide) (fun c9 => ?_) (fun c9 => ?_)
      · skip
        have f10 : z4.toInt ≤ 256 := b_le rfl (by decide) c9
        refine lv_iload_n hx hb dJ6_numberOfTrailingZeros_0f7a4_49 rfl (lv_at hl 1 rfl) ?_
        refine lv_bipush (v := 16) hx hb dJ6_numberOfTrailingZeros_0f7a4_50 (by decide) ?_
        refine lv_icmp_le (tgt := 62) hx hb dJ6_numberOfTrailingZeros_0f7a4_52 (by decide) (fun c11 => ?_) (fun c11 => ?_)
        · skip
          have f12 : z4.toInt ≤ 16 := b_le rfl (by decide) c11
          refine lv_iload_n hx hb dJ6_numberOfTrailingZeros_0f7a4_62 rfl (lv_at hl 1 rfl) ?_
          refine lv_iconst (v := 4) hx hb dJ6_numberOfTrailingZeros_0f7a4_63 (by decide) ?_
          refine lv_icmp_le (tgt := 74) hx hb dJ6_numberOfTrailingZeros_0f7a4_64 (by decide) (fun c13 => ?_) (fun c13 => ?_)
          · skip
            have f14 : z4.toInt ≤ 4 := b_le rfl (by decide) c13
            refine lv_iload_n hx hb dJ6_numberOfTrailingZeros_0f7a4_74 rfl (lv_at hl 0 rfl) ?_
            refine lv_iload_n hx hb dJ6_numberOfTrailingZeros_0f7a4_75 rfl (lv_at hl 1 rfl) ?_
            refine lv_iconst (v := 1) hx hb dJ6_numberOfTrailingZeros_0f7a4_76 (by decide) ?_
            refine lv_iushr hx hb dJ6_numberOfTrailingZeros_0f7a4_77 rfl ?_
            refine lv_topi (fun z15 ez15 => ?_)
            have hz15 : z15.toInt = z4.toInt / 2 := ushr_l (P := 2) (k := 1) ez15 (by first | omega | ((try (have i_hz3 := Imp.go hz3 (by omega))); omega)) (by decide) (by decide) (by decide)
            refine lv_iadd hx hb dJ6_numberOfTrailingZeros_0f7a4_78 ?_
            refine lv_topi (fun z16 ez16 => ?_)
            have hz16 : z16.toInt = 1 + z15.toInt := i_add ez16 (by decide) rfl (by omega)
            exact W.iret (v := z16) hx hb hr (fun t ht hW => ⟨⟨z16, (), rfl, ⟨(show 0 ≤ z16.toInt ∧ z16.toInt ≤ 32 from by first | omega | ((try (have i_hz3 := Imp.go hz3 (by omega))); omega)), (fun m h0 hm => (show z16.toInt < (m : Int) from by
                have a := nty h0
                have a1 := a.2.1
                have a2 := a.2.2 m hm
                rcases (show z15.toInt = 0 ∨ z15.toInt = 1 ∨ z15.toInt = 2 from by omega) with hh | hh | hh
                · have q := ntz_k (P := 1) (k := 0) (m := m) (by decide) (by omega) a2 a1
                  omega
                · have q := ntz_k (P := 2) (k := 1) (m := m) (by decide) (by omega) a2 a1
                  omega
                · have q := ntz_k (P := 4) (k := 2) (m := m) (by decide) (by omega) a2 a1
                  omega))⟩, by rw [ht]; exact hP, va_K.moved hW.alike hK, hD⟩, hS.F ht⟩) hS.2.2 dJ6_numberOfTrailingZeros_0f7a4_79
          · skip
            have f17 : 4 < z4.toInt := b_nle rfl (by decide) c13
            refine lv_iinc (v := 3) (lv' := [(1, .int 3), (0, .int z4)]) hx hb dJ6_numberOfTrailingZeros_0f7a4_67 hl (k := 0) rfl (by decide) (by decide) rfl (fun ls hl => ?_)
            refine lv_iload_n hx hb dJ6_numberOfTrailingZeros_0f7a4_70 rfl (lv_at hl 1 rfl) ?_
            refine lv_iconst (v := 2) hx hb dJ6_numberOfTrailingZeros_0f7a4_71 (by decide) ?_
            refine lv_iushr hx hb dJ6_numberOfTrailingZeros_0f7a4_72 rfl ?_
            refine lv_topi (fun z18 ez18 => ?_)
            have hz18 : z18.toInt = z4.toInt / 4 := ushr_l (P := 4) (k := 2) ez18 (by first | omega | ((try (have i_hz3 := Imp.go hz3 (by omega))); omega)) (by decide) (by decide) (by decide)
            refine lv_istore_n (lv' := [(0, .int z18), (1, .int 3)]) hx hb dJ6_numberOfTrailingZeros_0f7a4_73 rfl hl (by decide) rfl (fun ls hl => ?_)
            refine lv_iload_n hx hb dJ6_numberOfTrailingZeros_0f7a4_74 rfl (lv_at hl 1 rfl) ?_
            refine lv_iload_n hx hb dJ6_numberOfTrailingZeros_0f7a4_75 rfl (lv_at hl 0 rfl) ?_
            refine lv_iconst (v := 1) hx hb dJ6_numberOfTrailingZeros_0f7a4_76 (by decide) ?_
            refine lv_iushr hx hb dJ6_numberOfTrailingZeros_0f7a4_77 rfl ?_
            refine lv_topi (fun z19 ez19 => ?_)
            have hz19 : z19.toInt = z18.toInt / 2 := ushr_l (P := 2) (k := 1) ez19 (by first | omega | ((try (have i_hz3 := Imp.go hz3 (by omega))); omega)) (by decide) (by decide) (by decide)
            refine lv_iadd hx hb dJ6_numberOfTrailingZeros_0f7a4_78 ?_
            refine lv_topi (fun z20 ez20 => ?_)
            have hz20 : z20.toInt = 3 + z19.toInt := i_add ez20 (by decide) rfl (by omega)
            exact W.iret (v := z20) hx hb hr (fun t ht hW => ⟨⟨z20, (), rfl, ⟨(show 0 ≤ z20.toInt ∧ z20.toInt ≤ 32 from by first | omega | ((try (have i_hz3 := Imp.go hz3 (by omega))); omega)), (fun m h0 hm => (show z20.toInt < (m : Int) from by
                have a := nty h0
                have a1 := a.2.1
                have a2 := a.2.2 m hm
                rcases (show z19.toInt = 0 ∨ z19.toInt = 1 ∨ z19.toInt = 2 from by omega) with hh | hh | hh
                · have q := ntz_k (P := 4) (k := 2) (m := m) (by decide) (by omega) a2 a1
                  omega
                · have q := ntz_k (P := 8) (k := 3) (m := m) (by decide) (by omega) a2 a1
                  omega
                · have q := ntz_k (P := 16) (k := 4) (m := m) (by decide) (by omega) a2 a1
                  omega))⟩, by rw [ht]; exact hP, va_K.moved hW.alike hK, hD⟩, hS.F ht⟩) hS.2.2 dJ6_numberOfTrailingZeros_0f7a4_79
        · skip
          have f21 : 16 < z4.toInt := b_nle rfl (by decide) c11
          refine lv_iinc (v := 5) (lv' := [(1, .int 5), (0, .int z4)]) hx hb dJ6_numberOfTrailingZeros_0f7a4_55 hl (k := 0) rfl (by decide) (by decide) rfl (fun ls hl => ?_)
          refine lv_iload_n hx hb dJ6_numberOfTrailingZeros_0f7a4_58 rfl (lv_at hl 1 rfl) ?_
          refine lv_iconst (v := 4) hx hb dJ6_numberOfTrailingZeros_0f7a4_59 (by decide) ?_
          refine lv_iushr hx hb dJ6_numberOfTrailingZeros_0f7a4_60 rfl ?_
          refine lv_topi (fun z22 ez22 => ?_)
          have hz22 : z22.toInt = z4.toInt / 16 := ushr_l (P := 16) (k := 4) ez22 (by first | omega | ((try (have i_hz3 := Imp.go hz3 (by omega))); omega)) (by decide) (by decide) (by decide)
          refine lv_istore_n (lv' := [(0, .int z22), (1, .int 5)]) hx hb dJ6_numberOfTrailingZeros_0f7a4_61 rfl hl (by decide) rfl (fun ls hl => ?_)
          refine lv_iload_n hx hb dJ6_numberOfTrailingZeros_0f7a4_62 rfl (lv_at hl 0 rfl) ?_
          refine lv_iconst (v := 4) hx hb dJ6_numberOfTrailingZeros_0f7a4_63 (by decide) ?_
          refine lv_icmp_le (tgt := 74) hx hb dJ6_numberOfTrailingZeros_0f7a4_64 (by decide) (fun c23 => ?_) (fun c23 => ?_)
          · skip
            have f24 : z22.toInt ≤ 4 := b_le rfl (by decide) c23
            refine lv_iload_n hx hb dJ6_numberOfTrailingZeros_0f7a4_74 rfl (lv_at hl 1 rfl) ?_
            refine lv_iload_n hx hb dJ6_numberOfTrailingZeros_0f7a4_75 rfl (lv_at hl 0 rfl) ?_
            refine lv_iconst (v := 1) hx hb dJ6_numberOfTrailingZeros_0f7a4_76 (by decide) ?_
            refine lv_iushr hx hb dJ6_numberOfTrailingZeros_0f7a4_77 rfl ?_
            refine lv_topi (fun z25 ez25 => ?_)
            have hz25 : z25.toInt = z22.toInt / 2 := ushr_l (P := 2) (k := 1) ez25 (by first | omega | ((try (have i_hz3 := Imp.go hz3 (by omega))); omega)) (by decide) (by decide) (by decide)
            refine lv_iadd hx hb dJ6_numberOfTrailingZeros_0f7a4_78 ?_
            refine lv_topi (fun z26 ez26 => ?_)
            have hz26 : z26.toInt = 5 + z25.toInt := i_add ez26 (by decide) rfl (by omega)
            exact W.iret (v := z26) hx hb hr (fun t ht hW => ⟨⟨z26, (), rfl, ⟨(show 0 ≤ z26.toInt ∧ z26.toInt ≤ 32 from by first | omega | ((try (have i_hz3 := Imp.go hz3 (by omega))); omega)), (fun m h0 hm => (show z26.toInt < (m : Int) from by
                have a := nty h0
                have a1 := a.2.1
                have a2 := a.2.2 m hm
                rcases (show z25.toInt = 0 ∨ z25.toInt = 1 ∨ z25.toInt = 2 from by omega) with hh | hh | hh
                · have q := ntz_k (P := 16) (k := 4) (m := m) (by decide) (by omega) a2 a1
                  omega
                · have q := ntz_k (P := 32) (k := 5) (m := m) (by decide) (by omega) a2 a1
                  omega
                · have q := ntz_k (P := 64) (k := 6) (m := m) (by decide) (by omega) a2 a1
                  omega))⟩, by rw [ht]; exact hP, va_K.moved hW.alike hK, hD⟩, hS.F ht⟩) hS.2.2 dJ6_numberOfTrailingZeros_0f7a4_79
          · skip
            have f27 : 4 < z22.toInt := b_nle rfl (by decide) c23
            refine lv_iinc (v := 7) (lv' := [(1, .int 7), (0, .int z22)]) hx hb dJ6_numberOfTrailingZeros_0f7a4_67 hl (k := 1) rfl (by decide) (by decide) rfl (fun ls hl => ?_)
            refine lv_iload_n hx hb dJ6_numberOfTrailingZeros_0f7a4_70 rfl (lv_at hl 1 rfl) ?_
            refine lv_iconst (v := 2) hx hb dJ6_numberOfTrailingZeros_0f7a4_71 (by decide) ?_
            refine lv_iushr hx hb dJ6_numberOfTrailingZeros_0f7a4_72 rfl ?_
            refine lv_topi (fun z28 ez28 => ?_)
            have hz28 : z28.toInt = z22.toInt / 4 := ushr_l (P := 4) (k := 2) ez28 (by first | omega | ((try (have i_hz3 := Imp.go hz3 (by omega))); omega)) (by decide) (by decide) (by decide)
            refine lv_istore_n (lv' := [(0, .int z28), (1, .int 7)]) hx hb dJ6_numberOfTrailingZeros_0f7a4_73 rfl hl (by decide) rfl (fun ls hl => ?_)
            refine lv_iload_n hx hb dJ6_numberOfTrailingZeros_0f7a4_74 rfl (lv_at hl 1 rfl) ?_
            refine lv_iload_n hx hb dJ6_numberOfTrailingZeros_0f7a4_75 rfl (lv_at hl 0 rfl) ?_
            refine lv_iconst (v := 1) hx hb dJ6_numberOfTrailingZeros_0f7a4_76 (by decide) ?_
            refine lv_iushr hx hb dJ6_numberOfTrailingZeros_0f7a4_77 rfl ?_
            refine lv_topi (fun z29 ez29 => ?_)
            have hz29 : z29.toInt = z28.toInt / 2 := ushr_l (P := 2) (k := 1) ez29 (by first | omega | ((try (have i_hz3 := Imp.go hz3 (by omega))); omega)) (by decide) (by decide) (by decide)
            refine lv_iadd hx hb dJ6_numberOfTrailingZeros_0f7a4_78 ?_
            refine lv_topi (fun z30 ez30 => ?_)
            have hz30 : z30.toInt = 7 + z29.toInt := i_add ez30 (by decide) rfl (by omega)
            exact W.iret (v := z30) hx hb hr (fun t ht hW => ⟨⟨z30, (), rfl, ⟨(show 0 ≤ z30.toInt ∧ z30.toInt ≤ 32 from by first | omega | ((try (have i_hz3 := Imp.go hz3 (by omega))); omega)), (fun m h0 hm => (show z30.toInt < (m : Int) from by
                have a := nty h0
                have a1 := a.2.1
                have a2 := a.2.2 m hm
                rcases (show z29.toInt = 0 ∨ z29.toInt = 1 ∨ z29.toInt = 2 from by omega) with hh | hh | hh
                · have q := ntz_k (P := 64) (k := 6) (m := m) (by decide) (by omega) a2 a1
                  omega
                · have q := ntz_k (P := 128) (k := 7) (m := m) (by decide) (by omega) a2 a1
                  omega
                · have q := ntz_k (P := 256) (k := 8) (m := m) (by decide) (by omega) a2 a1
                  omega))⟩, by rw [ht]; exact hP, va_K.moved hW.alike hK, hD⟩, hS.F ht⟩) hS.2.2 dJ6_numberOfTrailingZeros_0f7a4_79
      · skip
        have f31 : 256 < z4.toInt := b_nle rfl (by decide) c9
        refine lv_iinc (v := 9) (lv' := [(1, .int 9), (0, .int z4)]) hx hb dJ6_numberOfTrailingZeros_0f7a4_41 hl (k := 0) rfl (by decide) (by decide) rfl (fun ls hl => ?_)
        refine lv_iload_n hx hb dJ6_numberOfTrailingZeros_0f7a4_44 rfl (lv_at hl 1 rfl) ?_
        refine lv_bipush (v := 8) hx hb dJ6_numberOfTrailingZeros_0f7a4_45 (by decide) ?_
        refine lv_iushr hx hb dJ6_numberOfTrailingZeros_0f7a4_47 rfl ?_
        refine lv_topi (fun z32 ez32 => ?_)
        have hz32 : z32.toInt = z4.toInt / 256 := ushr_l (P := 256) (k := 8) ez32 (by first | omega | ((try (have i_hz3 := Imp.go hz3 (by omega))); omega)) (by decide) (by decide) (by decide)
        refine lv_istore_n (lv' := [(0, .int z32), (1, .int 9)]) hx hb dJ6_numberOfTrailingZeros_0f7a4_48 rfl hl (by decide) rfl (fun ls hl => ?_)
        refine lv_iload_n hx hb dJ6_numberOfTrailingZeros_0f7a4_49 rfl (lv_at hl 0 rfl) ?_
        refine lv_bipush (v := 16) hx hb dJ6_numberOfTrailingZeros_0f7a4_50 (by decide) ?_
        refine lv_icmp_le (tgt := 62) hx hb dJ6_numberOfTrailingZeros_0f7a4_52 (by decide) (fun c33 => ?_) (fun c33 => ?_)
        · skip
          have f34 : z32.toInt ≤ 16 := b_le rfl (by decide) c33
          refine lv_iload_n hx hb dJ6_numberOfTrailingZeros_0f7a4_62 rfl (lv_at hl 0 rfl) ?_
          refine lv_iconst (v := 4) hx hb dJ6_numberOfTrailingZeros_0f7a4_63 (by decide) ?_
          refine lv_icmp_le (tgt := 74) hx hb dJ6_numberOfTrailingZeros_0f7a4_64 (by decide) (fun c35 => ?_) (fun c35 => ?_)
          · skip
            have f36 : z32.toInt ≤ 4 := b_le rfl (by decide) c35
            refine lv_iload_n hx hb dJ6_numberOfTrailingZeros_0f7a4_74 rfl (lv_at hl 1 rfl) ?_
            refine lv_iload_n hx hb dJ6_numberOfTrailingZeros_0f7a4_75 rfl (lv_at hl 0 rfl) ?_
            refine lv_iconst (v := 1) hx hb dJ6_numberOfTrailingZeros_0f7a4_76 (by decide) ?_
            refine lv_iushr hx hb dJ6_numberOfTrailingZeros_0f7a4_77 rfl ?_
            refine lv_topi (fun z37 ez37 => ?_)
            have hz37 : z37.toInt = z32.toInt / 2 := ushr_l (P := 2) (k := 1) ez37 (by first | omega | ((try (have i_hz3 := Imp.go hz3 (by omega))); omega)) (by decide) (by decide) (by decide)
            refine lv_iadd hx hb dJ6_numberOfTrailingZeros_0f7a4_78 ?_
            refine lv_topi (fun z38 ez38 => ?_)
            have hz38 : z38.toInt = 9 + z37.toInt := i_add ez38 (by decide) rfl (by omega)
            exact W.iret (v := z38) hx hb hr (fun t ht hW => ⟨⟨z38, (), rfl, ⟨(show 0 ≤ z38.toInt ∧ z38.toInt ≤ 32 from by first | omega | ((try (have i_hz3 := Imp.go hz3 (by omega))); omega)), (fun m h0 hm => (show z38.toInt < (m : Int) from by
                have a := nty h0
                have a1 := a.2.1
                have a2 := a.2.2 m hm
                rcases (show z37.toInt = 0 ∨ z37.toInt = 1 ∨ z37.toInt = 2 from by omega) with hh | hh | hh
                · have q := ntz_k (P := 256) (k := 8) (m := m) (by decide) (by omega) a2 a1
                  omega
                · have q := ntz_k (P := 512) (k := 9) (m := m) (by decide) (by omega) a2 a1
                  omega
                · have q := ntz_k (P := 1024) (k := 10) (m := m) (by decide) (by omega) a2 a1
                  omega))⟩, by rw [ht]; exact hP, va_K.moved hW.alike hK, hD⟩, hS.F ht⟩) hS.2.2 dJ6_numberOfTrailingZeros_0f7a4_79
          · skip
            have f39 : 4 < z32.toInt := b_nle rfl (by decide) c35
            refine lv_iinc (v := 11) (lv' := [(1, .int 11), (0, .int z32)]) hx hb dJ6_numberOfTrailingZeros_0f7a4_67 hl (k := 1) rfl (by decide) (by decide) rfl (fun ls hl => ?_)
            refine lv_iload_n hx hb dJ6_numberOfTrailingZeros_0f7a4_70 rfl (lv_at hl 1 rfl) ?_
            refine lv_iconst (v := 2) hx hb dJ6_numberOfTrailingZeros_0f7a4_71 (by decide) ?_
            refine lv_iushr hx hb dJ6_numberOfTrailingZeros_0f7a4_72 rfl ?_
            refine lv_topi (fun z40 ez40 => ?_)
            have hz40 : z40.toInt = z32.toInt / 4 := ushr_l (P := 4) (k := 2) ez40 (by first | omega | ((try (have i_hz3 := Imp.go hz3 (by omega))); omega)) (by decide) (by decide) (by decide)
            refine lv_istore_n (lv' := [(0, .int z40), (1, .int 11)]) hx hb dJ6_numberOfTrailingZeros_0f7a4_73 rfl hl (by decide) rfl (fun ls hl => ?_)
            refine lv_iload_n hx hb dJ6_numberOfTrailingZeros_0f7a4_74 rfl (lv_at hl 1 rfl) ?_
            refine lv_iload_n hx hb dJ6_numberOfTrailingZeros_0f7a4_75 rfl (lv_at hl 0 rfl) ?_
            refine lv_iconst (v := 1) hx hb dJ6_numberOfTrailingZeros_0f7a4_76 (by decide) ?_
            refine lv_iushr hx hb dJ6_numberOfTrailingZeros_0f7a4_77 rfl ?_
            refine lv_topi (fun z41 ez41 => ?_)
            have hz41 : z41.toInt = z40.toInt / 2 := ushr_l (P := 2) (k := 1) ez41 (by first | omega | ((try (have i_hz3 := Imp.go hz3 (by omega))); omega)) (by decide) (by decide) (by decide)
            refine lv_iadd hx hb dJ6_numberOfTrailingZeros_0f7a4_78 ?_
            refine lv_topi (fun z42 ez42 => ?_)
            have hz42 : z42.toInt = 11 + z41.toInt := i_add ez42 (by decide) rfl (by omega)
            exact W.iret (v := z42) hx hb hr (fun t ht hW => ⟨⟨z42, (), rfl, ⟨(show 0 ≤ z42.toInt ∧ z42.toInt ≤ 32 from by first | omega | ((try (have i_hz3 := Imp.go hz3 (by omega))); omega)), (fun m h0 hm => (show z42.toInt < (m : Int) from by
                have a := nty h0
                have a1 := a.2.1
                have a2 := a.2.2 m hm
                rcases (show z41.toInt = 0 ∨ z41.toInt = 1 ∨ z41.toInt = 2 from by omega) with hh | hh | hh
                · have q := ntz_k (P := 1024) (k := 10) (m := m) (by decide) (by omega) a2 a1
                  omega
                · have q := ntz_k (P := 2048) (k := 11) (m := m) (by decide) (by omega) a2 a1
                  omega
                · have q := ntz_k (P := 4096) (k := 12) (m := m) (by decide) (by omega) a2 a1
                  omega))⟩, by rw [ht]; exact hP, va_K.moved hW.alike hK, hD⟩, hS.F ht⟩) hS.2.2 dJ6_numberOfTrailingZeros_0f7a4_79
        · skip
          have f43 : 16 < z32.toInt := b_nle rfl (by decide) c33
          refine lv_iinc (v := 13) (lv' := [(1, .int 13), (0, .int z32)]) hx hb dJ6_numberOfTrailingZeros_0f7a4_55 hl (k := 1) rfl (by decide) (by decide) rfl (fun ls hl => ?_)
          refine lv_iload_n hx hb dJ6_numberOfTrailingZeros_0f7a4_58 rfl (lv_at hl 1 rfl) ?_
          refine lv_iconst (v := 4) hx hb dJ6_numberOfTrailingZeros_0f7a4_59 (by decide) ?_
          refine lv_iushr hx hb dJ6_numberOfTrailingZeros_0f7a4_60 rfl ?_
          refine lv_topi (fun z44 ez44 => ?_)
          have hz44 : z44.toInt = z32.toInt / 16 := ushr_l (P := 16) (k := 4) ez44 (by first | omega | ((try (have i_hz3 := Imp.go hz3 (by omega))); omega)) (by decide) (by decide) (by decide)
          refine lv_istore_n (lv' := [(0, .int z44), (1, .int 13)]) hx hb dJ6_numberOfTrailingZeros_0f7a4_61 rfl hl (by decide) rfl (fun ls hl => ?_)
          refine lv_iload_n hx hb dJ6_numberOfTrailingZeros_0f7a4_62 rfl (lv_at hl 0 rfl) ?_
          refine lv_iconst (v := 4) hx hb dJ6_numberOfTrailingZeros_0f7a4_63 (by decide) ?_
          refine lv_icmp_le (tgt := 74) hx hb dJ6_numberOfTrailingZeros_0f7a4_64 (by decide) (fun c45 => ?_) (fun c45 => ?_)
          · skip
            have f46 : z44.toInt ≤ 4 := b_le rfl (by decide) c45
            refine lv_iload_n hx hb dJ6_numberOfTrailingZeros_0f7a4_74 rfl (lv_at hl 1 rfl) ?_
            refine lv_iload_n hx hb dJ6_numberOfTrailingZeros_0f7a4_75 rfl (lv_at hl 0 rfl) ?_
            refine lv_iconst (v := 1) hx hb dJ6_numberOfTrailingZeros_0f7a4_76 (by decide) ?_
            refine lv_iushr hx hb dJ6_numberOfTrailingZeros_0f7a4_77 rfl ?_
            refine lv_topi (fun z47 ez47 => ?_)
            have hz47 : z47.toInt = z44.toInt / 2 := ushr_l (P := 2) (k := 1) ez47 (by first | omega | ((try (have i_hz3 := Imp.go hz3 (by omega))); omega)) (by decide) (by decide) (by decide)
            refine lv_iadd hx hb dJ6_numberOfTrailingZeros_0f7a4_78 ?_
            refine lv_topi (fun z48 ez48 => ?_)
            have hz48 : z48.toInt = 13 + z47.toInt := i_add ez48 (by decide) rfl (by omega)
            exact W.iret (v := z48) hx hb hr (fun t ht hW => ⟨⟨z48, (), rfl, ⟨(show 0 ≤ z48.toInt ∧ z48.toInt ≤ 32 from by first | omega | ((try (have i_hz3 := Imp.go hz3 (by omega))); omega)), (fun m h0 hm => (show z48.toInt < (m : Int) from by
                have a := nty h0
                have a1 := a.2.1
                have a2 := a.2.2 m hm
                rcases (show z47.toInt = 0 ∨ z47.toInt = 1 ∨ z47.toInt = 2 from by omega) with hh | hh | hh
                · have q := ntz_k (P := 4096) (k := 12) (m := m) (by decide) (by omega) a2 a1
                  omega
                · have q := ntz_k (P := 8192) (k := 13) (m := m) (by decide) (by omega) a2 a1
                  omega
                · have q := ntz_k (P := 16384) (k := 14) (m := m) (by decide) (by omega) a2 a1
                  omega))⟩, by rw [ht]; exact hP, va_K.moved hW.alike hK, hD⟩, hS.F ht⟩) hS.2.2 dJ6_numberOfTrailingZeros_0f7a4_79
          · skip
            have f49 : 4 < z44.toInt := b_nle rfl (by decide) c45
            refine lv_iinc (v := 15) (lv' := [(1, .int 15), (0, .int z44)]) hx hb dJ6_numberOfTrailingZeros_0f7a4_67 hl (k := 1) rfl (by decide) (by decide) rfl (fun ls hl => ?_)
            refine lv_iload_n hx hb dJ6_numberOfTrailingZeros_0f7a4_70 rfl (lv_at hl 1 rfl) ?_
            refine lv_iconst (v := 2) hx hb dJ6_numberOfTrailingZeros_0f7a4_71 (by decide) ?_
            refine lv_iushr hx hb dJ6_numberOfTrailingZeros_0f7a4_72 rfl ?_
            refine lv_topi (fun z50 ez50 => ?_)
            have hz50 : z50.toInt = z44.toInt / 4 := ushr_l (P := 4) (k := 2) ez50 (by first | omega | ((try (have i_hz3 := Imp.go hz3 (by omega))); omega)) (by decide) (by decide) (by decide)
            refine lv_istore_n (lv' := [(0, .int z50), (1, .int 15)]) hx hb dJ6_numberOfTrailingZeros_0f7a4_73 rfl hl (by decide) rfl (fun ls hl => ?_)
            refine lv_iload_n hx hb dJ6_numberOfTrailingZeros_0f7a4_74 rfl (lv_at hl 1 rfl) ?_
            refine lv_iload_n hx hb dJ6_numberOfTrailingZeros_0f7a4_75 rfl (lv_at hl 0 rfl) ?_
            refine lv_iconst (v := 1) hx hb dJ6_numberOfTrailingZeros_0f7a4_76 (by decide) ?_
            refine lv_iushr hx hb dJ6_numberOfTrailingZeros_0f7a4_77 rfl ?_
            refine lv_topi (fun z51 ez51 => ?_)
            have hz51 : z51.toInt = z50.toInt / 2 := ushr_l (P := 2) (k := 1) ez51 (by first | omega | ((try (have i_hz3 := Imp.go hz3 (by omega))); omega)) (by decide) (by decide) (by decide)
            refine lv_iadd hx hb dJ6_numberOfTrailingZeros_0f7a4_78 ?_
            refine lv_topi (fun z52 ez52 => ?_)
            have hz52 : z52.toInt = 15 + z51.toInt := i_add ez52 (by decide) rfl (by omega)
            exact W.iret (v := z52) hx hb hr (fun t ht hW => ⟨⟨z52, (), rfl, ⟨(show 0 ≤ z52.toInt ∧ z52.toInt ≤ 32 from by first | omega | ((try (have i_hz3 := Imp.go hz3 (by omega))); omega)), (fun m h0 hm => (show z52.toInt < (m : Int) from by
                have a := nty h0
                have a1 := a.2.1
                have a2 := a.2.2 m hm
                rcases (show z51.toInt = 0 ∨ z51.toInt = 1 ∨ z51.toInt = 2 from by omega) with hh | hh | hh
                · have q := ntz_k (P := 16384) (k := 14) (m := m) (by decide) (by omega) a2 a1
                  omega
                · have q := ntz_k (P := 32768) (k := 15) (m := m) (by decide) (by omega) a2 a1
                  omega
                · have q := ntz_k (P := 65536) (k := 16) (m := m) (by decide) (by omega) a2 a1
                  omega))⟩, by rw [ht]; exact hP, va_K.moved hW.alike hK, hD⟩, hS.F ht⟩) hS.2.2 dJ6_numberOfTrailingZeros_0f7a4_79
    · skip
      have f53 : 65536 < z4.toInt := b_nle rfl (by decide) c7
      refine lv_iinc (v := 17) (lv' := [(1, .int 17), (0, .int z4)]) hx hb dJ6_numberOfTrailingZeros_0f7a4_26 hl (k := 0) rfl (by decide) (by decide) rfl (fun ls hl => ?_)
      refine lv_iload_n hx hb dJ6_numberOfTrailingZeros_0f7a4_29 rfl (lv_at hl 1 rfl) ?_
      refine lv_bipush (v := 16) hx hb dJ6_numberOfTrailingZeros_0f7a4_30 (by decide) ?_
      refine lv_iushr hx hb dJ6_numberOfTrailingZeros_0f7a4_32 rfl ?_
      refine lv_topi (fun z54 ez54 => ?_)
      have hz54 : z54.toInt = z4.toInt / 65536 := ushr_l (P := 65536) (k := 16) ez54 (by first | omega | ((try (have i_hz3 := Imp.go hz3 (by omega))); omega)) (by decide) (by decide) (by decide)
      refine lv_istore_n (lv' := [(0, .int z54), (1, .int 17)]) hx hb dJ6_numberOfTrailingZeros_0f7a4_33 rfl hl (by decide) rfl (fun ls hl => ?_)
      refine lv_iload_n hx hb dJ6_numberOfTrailingZeros_0f7a4_34 rfl (lv_at hl 0 rfl) ?_
      refine lv_sipush (v := 256) hx hb dJ6_numberOfTrailingZeros_0f7a4_35 (by decide) ?_
      refine lv_icmp_le (tgt := 49) hx hb dJ6_numberOfTrailingZeros_0f7a4_38 (by decide) (fun c55 => ?_) (fun c55 => ?_)
      · skip
        have f56 : z54.toInt ≤ 256 := b_le rfl (by decide) c55
        refine lv_iload_n hx hb dJ6_numberOfTrailingZeros_0f7a4_49 rfl (lv_at hl 0 rfl) ?_
        refine lv_bipush (v := 16) hx hb dJ6_numberOfTrailingZeros_0f7a4_50 (by decide) ?_
        refine lv_icmp_le (tgt := 62) hx hb dJ6_numberOfTrailingZeros_0f7a4_52 (by decide) (fun c57 => ?_) (fun c57 => ?_)
        · skip
          have f58 : z54.toInt ≤ 16 := b_le rfl (by decide) c57
          refine lv_iload_n hx hb dJ6_numberOfTrailingZeros_0f7a4_62 rfl (lv_at hl 0 rfl) ?_
          refine lv_iconst (v := 4) hx hb dJ6_numberOfTrailingZeros_0f7a4_63 (by decide) ?_
          refine lv_icmp_le (tgt := 74) hx hb dJ6_numberOfTrailingZeros_0f7a4_64 (by decide) (fun c59 => ?_) (fun c59 => ?_)
          · skip
            have f60 : z54.toInt ≤ 4 := b_le rfl (by decide) c59
            refine lv_iload_n hx hb dJ6_numberOfTrailingZeros_0f7a4_74 rfl (lv_at hl 1 rfl) ?_
            refine lv_iload_n hx hb dJ6_numberOfTrailingZeros_0f7a4_75 rfl (lv_at hl 0 rfl) ?_
            refine lv_iconst (v := 1) hx hb dJ6_numberOfTrailingZeros_0f7a4_76 (by decide) ?_
            refine lv_iushr hx hb dJ6_numberOfTrailingZeros_0f7a4_77 rfl ?_
            refine lv_topi (fun z61 ez61 => ?_)
            have hz61 : z61.toInt = z54.toInt / 2 := ushr_l (P := 2) (k := 1) ez61 (by first | omega | ((try (have i_hz3 := Imp.go hz3 (by omega))); omega)) (by decide) (by decide) (by decide)
            refine lv_iadd hx hb dJ6_numberOfTrailingZeros_0f7a4_78 ?_
            refine lv_topi (fun z62 ez62 => ?_)
            have hz62 : z62.toInt = 17 + z61.toInt := i_add ez62 (by decide) rfl (by omega)
            exact W.iret (v := z62) hx hb hr (fun t ht hW => ⟨⟨z62, (), rfl, ⟨(show 0 ≤ z62.toInt ∧ z62.toInt ≤ 32 from by first | omega | ((try (have i_hz3 := Imp.go hz3 (by omega))); omega)), (fun m h0 hm => (show z62.toInt < (m : Int) from by
                have a := nty h0
                have a1 := a.2.1
                have a2 := a.2.2 m hm
                rcases (show z61.toInt = 0 ∨ z61.toInt = 1 ∨ z61.toInt = 2 from by omega) with hh | hh | hh
                · have q := ntz_k (P := 65536) (k := 16) (m := m) (by decide) (by omega) a2 a1
                  omega
                · have q := ntz_k (P := 131072) (k := 17) (m := m) (by decide) (by omega) a2 a1
                  omega
                · have q := ntz_k (P := 262144) (k := 18) (m := m) (by decide) (by omega) a2 a1
                  omega))⟩, by rw [ht]; exact hP, va_K.moved hW.alike hK, hD⟩, hS.F ht⟩) hS.2.2 dJ6_numberOfTrailingZeros_0f7a4_79
          · skip
            have f63 : 4 < z54.toInt := b_nle rfl (by decide) c59
            refine lv_iinc (v := 19) (lv' := [(1, .int 19), (0, .int z54)]) hx hb dJ6_numberOfTrailingZeros_0f7a4_67 hl (k := 1) rfl (by decide) (by decide) rfl (fun ls hl => ?_)
            refine lv_iload_n hx hb dJ6_numberOfTrailingZeros_0f7a4_70 rfl (lv_at hl 1 rfl) ?_
            refine lv_iconst (v := 2) hx hb dJ6_numberOfTrailingZeros_0f7a4_71 (by decide) ?_
            refine lv_iushr hx hb dJ6_numberOfTrailingZeros_0f7a4_72 rfl ?_
            refine lv_topi (fun z64 ez64 => ?_)
            have hz64 : z64.toInt = z54.toInt / 4 := ushr_l (P := 4) (k := 2) ez64 (by first | omega | ((try (have i_hz3 := Imp.go hz3 (by omega))); omega)) (by decide) (by decide) (by decide)
            refine lv_istore_n (lv' := [(0, .int z64), (1, .int 19)]) hx hb dJ6_numberOfTrailingZeros_0f7a4_73 rfl hl (by decide) rfl (fun ls hl => ?_)
            refine lv_iload_n hx hb dJ6_numberOfTrailingZeros_0f7a4_74 rfl (lv_at hl 1 rfl) ?_
            refine lv_iload_n hx hb dJ6_numberOfTrailingZeros_0f7a4_75 rfl (lv_at hl 0 rfl) ?_
            refine lv_iconst (v := 1) hx hb dJ6_numberOfTrailingZeros_0f7a4_76 (by decide) ?_
            refine lv_iushr hx hb dJ6_numberOfTrailingZeros_0f7a4_77 rfl ?_
            refine lv_topi (fun z65 ez65 => ?_)
            have hz65 : z65.toInt = z64.toInt / 2 := ushr_l (P := 2) (k := 1) ez65 (by first | omega | ((try (have i_hz3 := Imp.go hz3 (by omega))); omega)) (by decide) (by decide) (by decide)
            refine lv_iadd hx hb dJ6_numberOfTrailingZeros_0f7a4_78 ?_
            refine lv_topi (fun z66 ez66 => ?_)
            have hz66 : z66.toInt = 19 + z65.toInt := i_add ez66 (by decide) rfl (by omega)
            exact W.iret (v := z66) hx hb hr (fun t ht hW => ⟨⟨z66, (), rfl, ⟨(show 0 ≤ z66.toInt ∧ z66.toInt ≤ 32 from by first | omega | ((try (have i_hz3 := Imp.go hz3 (by omega))); omega)), (fun m h0 hm => (show z66.toInt < (m : Int) from by
                have a := nty h0
                have a1 := a.2.1
                have a2 := a.2.2 m hm
                rcases (show z65.toInt = 0 ∨ z65.toInt = 1 ∨ z65.toInt = 2 from by omega) with hh | hh | hh
                · have q := ntz_k (P := 262144) (k := 18) (m := m) (by decide) (by omega) a2 a1
                  omega
                · have q := ntz_k (P := 524288) (k := 19) (m := m) (by decide) (by omega) a2 a1
                  omega
                · have q := ntz_k (P := 1048576) (k := 20) (m := m) (by decide) (by omega) a2 a1
                  omega))⟩, by rw [ht]; exact hP, va_K.moved hW.alike hK, hD⟩, hS.F ht⟩) hS.2.2 dJ6_numberOfTrailingZeros_0f7a4_79
        · skip
          have f67 : 16 < z54.toInt := b_nle rfl (by decide) c57
          refine lv_iinc (v := 21) (lv' := [(1, .int 21), (0, .int z54)]) hx hb dJ6_numberOfTrailingZeros_0f7a4_55 hl (k := 1) rfl (by decide) (by decide) rfl (fun ls hl => ?_)
          refine lv_iload_n hx hb dJ6_numberOfTrailingZeros_0f7a4_58 rfl (lv_at hl 1 rfl) ?_
          refine lv_iconst (v := 4) hx hb dJ6_numberOfTrailingZeros_0f7a4_59 (by decide) ?_
          refine lv_iushr hx hb dJ6_numberOfTrailingZeros_0f7a4_60 rfl ?_
          refine lv_topi (fun z68 ez68 => ?_)
          have hz68 : z68.toInt = z54.toInt / 16 := ushr_l (P := 16) (k := 4) ez68 (by first | omega | ((try (have i_hz3 := Imp.go hz3 (by omega))); omega)) (by decide) (by decide) (by decide)
          refine lv_istore_n (lv' := [(0, .int z68), (1, .int 21)]) hx hb dJ6_numberOfTrailingZeros_0f7a4_61 rfl hl (by decide) rfl (fun ls hl => ?_)
          refine lv_iload_n hx hb dJ6_numberOfTrailingZeros_0f7a4_62 rfl (lv_at hl 0 rfl) ?_
          refine lv_iconst (v := 4) hx hb dJ6_numberOfTrailingZeros_0f7a4_63 (by decide) ?_
          refine lv_icmp_le (tgt := 74) hx hb dJ6_numberOfTrailingZeros_0f7a4_64 (by decide) (fun c69 => ?_) (fun c69 => ?_)
          · skip
            have f70 : z68.toInt ≤ 4 := b_le rfl (by decide) c69
            refine lv_iload_n hx hb dJ6_numberOfTrailingZeros_0f7a4_74 rfl (lv_at hl 1 rfl) ?_
            refine lv_iload_n hx hb dJ6_numberOfTrailingZeros_0f7a4_75 rfl (lv_at hl 0 rfl) ?_
            refine lv_iconst (v := 1) hx hb dJ6_numberOfTrailingZeros_0f7a4_76 (by decide) ?_
            refine lv_iushr hx hb dJ6_numberOfTrailingZeros_0f7a4_77 rfl ?_
            refine lv_topi (fun z71 ez71 => ?_)
            have hz71 : z71.toInt = z68.toInt / 2 := ushr_l (P := 2) (k := 1) ez71 (by first | omega | ((try (have i_hz3 := Imp.go hz3 (by omega))); omega)) (by decide) (by decide) (by decide)
            refine lv_iadd hx hb dJ6_numberOfTrailingZeros_0f7a4_78 ?_
            refine lv_topi (fun z72 ez72 => ?_)
            have hz72 : z72.toInt = 21 + z71.toInt := i_add ez72 (by decide) rfl (by omega)
            exact W.iret (v := z72) hx hb hr (fun t ht hW => ⟨⟨z72, (), rfl, ⟨(show 0 ≤ z72.toInt ∧ z72.toInt ≤ 32 from by first | omega | ((try (have i_hz3 := Imp.go hz3 (by omega))); omega)), (fun m h0 hm => (show z72.toInt < (m : Int) from by
                have a := nty h0
                have a1 := a.2.1
                have a2 := a.2.2 m hm
                rcases (show z71.toInt = 0 ∨ z71.toInt = 1 ∨ z71.toInt = 2 from by omega) with hh | hh | hh
                · have q := ntz_k (P := 1048576) (k := 20) (m := m) (by decide) (by omega) a2 a1
                  omega
                · have q := ntz_k (P := 2097152) (k := 21) (m := m) (by decide) (by omega) a2 a1
                  omega
                · have q := ntz_k (P := 4194304) (k := 22) (m := m) (by decide) (by omega) a2 a1
                  omega))⟩, by rw [ht]; exact hP, va_K.moved hW.alike hK, hD⟩, hS.F ht⟩) hS.2.2 dJ6_numberOfTrailingZeros_0f7a4_79
          · skip
            have f73 : 4 < z68.toInt := b_nle rfl (by decide) c69
            refine lv_iinc (v := 23) (lv' := [(1, .int 23), (0, .int z68)]) hx hb dJ6_numberOfTrailingZeros_0f7a4_67 hl (k := 1) rfl (by decide) (by decide) rfl (fun ls hl => ?_)
            refine lv_iload_n hx hb dJ6_numberOfTrailingZeros_0f7a4_70 rfl (lv_at hl 1 rfl) ?_
            refine lv_iconst (v := 2) hx hb dJ6_numberOfTrailingZeros_0f7a4_71 (by decide) ?_
            refine lv_iushr hx hb dJ6_numberOfTrailingZeros_0f7a4_72 rfl ?_
            refine lv_topi (fun z74 ez74 => ?_)
            have hz74 : z74.toInt = z68.toInt / 4 := ushr_l (P := 4) (k := 2) ez74 (by first | omega | ((try (have i_hz3 := Imp.go hz3 (by omega))); omega)) (by decide) (by decide) (by decide)
            refine lv_istore_n (lv' := [(0, .int z74), (1, .int 23)]) hx hb dJ6_numberOfTrailingZeros_0f7a4_73 rfl hl (by decide) rfl (fun ls hl => ?_)
            refine lv_iload_n hx hb dJ6_numberOfTrailingZeros_0f7a4_74 rfl (lv_at hl 1 rfl) ?_
            refine lv_iload_n hx hb dJ6_numberOfTrailingZeros_0f7a4_75 rfl (lv_at hl 0 rfl) ?_
            refine lv_iconst (v := 1) hx hb dJ6_numberOfTrailingZeros_0f7a4_76 (by decide) ?_
            refine lv_iushr hx hb dJ6_numberOfTrailingZeros_0f7a4_77 rfl ?_
            refine lv_topi (fun z75 ez75 => ?_)
            have hz75 : z75.toInt = z74.toInt / 2 := ushr_l (P := 2) (k := 1) ez75 (by first | omega | ((try (have i_hz3 := Imp.go hz3 (by omega))); omega)) (by decide) (by decide) (by decide)
            refine lv_iadd hx hb dJ6_numberOfTrailingZeros_0f7a4_78 ?_
            refine lv_topi (fun z76 ez76 => ?_)
            have hz76 : z76.toInt = 23 + z75.toInt := i_add ez76 (by decide) rfl (by omega)
            exact W.iret (v := z76) hx hb hr (fun t ht hW => ⟨⟨z76, (), rfl, ⟨(show 0 ≤ z76.toInt ∧ z76.toInt ≤ 32 from by first | omega | ((try (have i_hz3 := Imp.go hz3 (by omega))); omega)), (fun m h0 hm => (show z76.toInt < (m : Int) from by
                have a := nty h0
                have a1 := a.2.1
                have a2 := a.2.2 m hm
                rcases (show z75.toInt = 0 ∨ z75.toInt = 1 ∨ z75.toInt = 2 from by omega) with hh | hh | hh
                · have q := ntz_k (P := 4194304) (k := 22) (m := m) (by decide) (by omega) a2 a1
                  omega
                · have q := ntz_k (P := 8388608) (k := 23) (m := m) (by decide) (by omega) a2 a1
                  omega
                · have q := ntz_k (P := 16777216) (k := 24) (m := m) (by decide) (by omega) a2 a1
                  omega))⟩, by rw [ht]; exact hP, va_K.moved hW.alike hK, hD⟩, hS.F ht⟩) hS.2.2 dJ6_numberOfTrailingZeros_0f7a4_79
      · skip
        have f77 : 256 < z54.toInt := b_nle rfl (by decide) c55
        refine lv_iinc (v := 25) (lv' := [(1, .int 25), (0, .int z54)]) hx hb dJ6_numberOfTrailingZeros_0f7a4_41 hl (k := 1) rfl (by decide) (by decide) rfl (fun ls hl => ?_)
        refine lv_iload_n hx hb dJ6_numberOfTrailingZeros_0f7a4_44 rfl (lv_at hl 1 rfl) ?_
        refine lv_bipush (v := 8) hx hb dJ6_numberOfTrailingZeros_0f7a4_45 (by decide) ?_
        refine lv_iushr hx hb dJ6_numberOfTrailingZeros_0f7a4_47 rfl ?_
        refine lv_topi (fun z78 ez78 => ?_)
        have hz78 : z78.toInt = z54.toInt / 256 := ushr_l (P := 256) (k := 8) ez78 (by first | omega | ((try (have i_hz3 := Imp.go hz3 (by omega))); omega)) (by decide) (by decide) (by decide)
        refine lv_istore_n (lv' := [(0, .int z78), (1, .int 25)]) hx hb dJ6_numberOfTrailingZeros_0f7a4_48 rfl hl (by decide) rfl (fun ls hl => ?_)
        refine lv_iload_n hx hb dJ6_numberOfTrailingZeros_0f7a4_49 rfl (lv_at hl 0 rfl) ?_
        refine lv_bipush (v := 16) hx hb dJ6_numberOfTrailingZeros_0f7a4_50 (by decide) ?_
        refine lv_icmp_le (tgt := 62) hx hb dJ6_numberOfTrailingZeros_0f7a4_52 (by decide) (fun c79 => ?_) (fun c79 => ?_)
        · skip
          have f80 : z78.toInt ≤ 16 := b_le rfl (by decide) c79
          refine lv_iload_n hx hb dJ6_numberOfTrailingZeros_0f7a4_62 rfl (lv_at hl 0 rfl) ?_
          refine lv_iconst (v := 4) hx hb dJ6_numberOfTrailingZeros_0f7a4_63 (by decide) ?_
          refine lv_icmp_le (tgt := 74) hx hb dJ6_numberOfTrailingZeros_0f7a4_64 (by decide) (fun c81 => ?_) (fun c81 => ?_)
          · skip
            have f82 : z78.toInt ≤ 4 := b_le rfl (by decide) c81
            refine lv_iload_n hx hb dJ6_numberOfTrailingZeros_0f7a4_74 rfl (lv_at hl 1 rfl) ?_
            refine lv_iload_n hx hb dJ6_numberOfTrailingZeros_0f7a4_75 rfl (lv_at hl 0 rfl) ?_
            refine lv_iconst (v := 1) hx hb dJ6_numberOfTrailingZeros_0f7a4_76 (by decide) ?_
            refine lv_iushr hx hb dJ6_numberOfTrailingZeros_0f7a4_77 rfl ?_
            refine lv_topi (fun z83 ez83 => ?_)
            have hz83 : z83.toInt = z78.toInt / 2 := ushr_l (P := 2) (k := 1) ez83 (by first | omega | ((try (have i_hz3 := Imp.go hz3 (by omega))); omega)) (by decide) (by decide) (by decide)
            refine lv_iadd hx hb dJ6_numberOfTrailingZeros_0f7a4_78 ?_
            refine lv_topi (fun z84 ez84 => ?_)
            have hz84 : z84.toInt = 25 + z83.toInt := i_add ez84 (by decide) rfl (by omega)
            exact W.iret (v := z84) hx hb hr (fun t ht hW => ⟨⟨z84, (), rfl, ⟨(show 0 ≤ z84.toInt ∧ z84.toInt ≤ 32 from by first | omega | ((try (have i_hz3 := Imp.go hz3 (by omega))); omega)), (fun m h0 hm => (show z84.toInt < (m : Int) from by
                have a := nty h0
                have a1 := a.2.1
                have a2 := a.2.2 m hm
                rcases (show z83.toInt = 0 ∨ z83.toInt = 1 ∨ z83.toInt = 2 from by omega) with hh | hh | hh
                · have q := ntz_k (P := 16777216) (k := 24) (m := m) (by decide) (by omega) a2 a1
                  omega
                · have q := ntz_k (P := 33554432) (k := 25) (m := m) (by decide) (by omega) a2 a1
                  omega
                · have q := ntz_k (P := 67108864) (k := 26) (m := m) (by decide) (by omega) a2 a1
                  omega))⟩, by rw [ht]; exact hP, va_K.moved hW.alike hK, hD⟩, hS.F ht⟩) hS.2.2 dJ6_numberOfTrailingZeros_0f7a4_79
          · skip
            have f85 : 4 < z78.toInt := b_nle rfl (by decide) c81
            refine lv_iinc (v := 27) (lv' := [(1, .int 27), (0, .int z78)]) hx hb dJ6_numberOfTrailingZeros_0f7a4_67 hl (k := 1) rfl (by decide) (by decide) rfl (fun ls hl => ?_)
            refine lv_iload_n hx hb dJ6_numberOfTrailingZeros_0f7a4_70 rfl (lv_at hl 1 rfl) ?_
            refine lv_iconst (v := 2) hx hb dJ6_numberOfTrailingZeros_0f7a4_71 (by decide) ?_
            refine lv_iushr hx hb dJ6_numberOfTrailingZeros_0f7a4_72 rfl ?_
            refine lv_topi (fun z86 ez86 => ?_)
            have hz86 : z86.toInt = z78.toInt / 4 := ushr_l (P := 4) (k := 2) ez86 (by first | omega | ((try (have i_hz3 := Imp.go hz3 (by omega))); omega)) (by decide) (by decide) (by decide)
            refine lv_istore_n (lv' := [(0, .int z86), (1, .int 27)]) hx hb dJ6_numberOfTrailingZeros_0f7a4_73 rfl hl (by decide) rfl (fun ls hl => ?_)
            refine lv_iload_n hx hb dJ6_numberOfTrailingZeros_0f7a4_74 rfl (lv_at hl 1 rfl) ?_
            refine lv_iload_n hx hb dJ6_numberOfTrailingZeros_0f7a4_75 rfl (lv_at hl 0 rfl) ?_
            refine lv_iconst (v := 1) hx hb dJ6_numberOfTrailingZeros_0f7a4_76 (by decide) ?_
            refine lv_iushr hx hb dJ6_numberOfTrailingZeros_0f7a4_77 rfl ?_
            refine lv_topi (fun z87 ez87 => ?_)
            have hz87 : z87.toInt = z86.toInt / 2 := ushr_l (P := 2) (k := 1) ez87 (by first | omega | ((try (have i_hz3 := Imp.go hz3 (by omega))); omega)) (by decide) (by decide) (by decide)
            refine lv_iadd hx hb dJ6_numberOfTrailingZeros_0f7a4_78 ?_
            refine lv_topi (fun z88 ez88 => ?_)
            have hz88 : z88.toInt = 27 + z87.toInt := i_add ez88 (by decide) rfl (by omega)
            exact W.iret (v := z88) hx hb hr (fun t ht hW => ⟨⟨z88, (), rfl, ⟨(show 0 ≤ z88.toInt ∧ z88.toInt ≤ 32 from by first | omega | ((try (have i_hz3 := Imp.go hz3 (by omega))); omega)), (fun m h0 hm => (show z88.toInt < (m : Int) from by
                have a := nty h0
                have a1 := a.2.1
                have a2 := a.2.2 m hm
                rcases (show z87.toInt = 0 ∨ z87.toInt = 1 ∨ z87.toInt = 2 from by omega) with hh | hh | hh
                · have q := ntz_k (P := 67108864) (k := 26) (m := m) (by decide) (by omega) a2 a1
                  omega
                · have q := ntz_k (P := 134217728) (k := 27) (m := m) (by decide) (by omega) a2 a1
                  omega
                · have q := ntz_k (P := 268435456) (k := 28) (m := m) (by decide) (by omega) a2 a1
                  omega))⟩, by rw [ht]; exact hP, va_K.moved hW.alike hK, hD⟩, hS.F ht⟩) hS.2.2 dJ6_numberOfTrailingZeros_0f7a4_79
        · skip
          have f89 : 16 < z78.toInt := b_nle rfl (by decide) c79
          refine lv_iinc (v := 29) (lv' := [(1, .int 29), (0, .int z78)]) hx hb dJ6_numberOfTrailingZeros_0f7a4_55 hl (k := 1) rfl (by decide) (by decide) rfl (fun ls hl => ?_)
          refine lv_iload_n hx hb dJ6_numberOfTrailingZeros_0f7a4_58 rfl (lv_at hl 1 rfl) ?_
          refine lv_iconst (v := 4) hx hb dJ6_numberOfTrailingZeros_0f7a4_59 (by decide) ?_
          refine lv_iushr hx hb dJ6_numberOfTrailingZeros_0f7a4_60 rfl ?_
          refine lv_topi (fun z90 ez90 => ?_)
          have hz90 : z90.toInt = z78.toInt / 16 := ushr_l (P := 16) (k := 4) ez90 (by first | omega | ((try (have i_hz3 := Imp.go hz3 (by omega))); omega)) (by decide) (by decide) (by decide)
          refine lv_istore_n (lv' := [(0, .int z90), (1, .int 29)]) hx hb dJ6_numberOfTrailingZeros_0f7a4_61 rfl hl (by decide) rfl (fun ls hl => ?_)
          refine lv_iload_n hx hb dJ6_numberOfTrailingZeros_0f7a4_62 rfl (lv_at hl 0 rfl) ?_
          refine lv_iconst (v := 4) hx hb dJ6_numberOfTrailingZeros_0f7a4_63 (by decide) ?_
          refine lv_icmp_le (tgt := 74) hx hb dJ6_numberOfTrailingZeros_0f7a4_64 (by decide) (fun c91 => ?_) (fun c91 => ?_)
          · skip
            have f92 : z90.toInt ≤ 4 := b_le rfl (by decide) c91
            refine lv_iload_n hx hb dJ6_numberOfTrailingZeros_0f7a4_74 rfl (lv_at hl 1 rfl) ?_
            refine lv_iload_n hx hb dJ6_numberOfTrailingZeros_0f7a4_75 rfl (lv_at hl 0 rfl) ?_
            refine lv_iconst (v := 1) hx hb dJ6_numberOfTrailingZeros_0f7a4_76 (by decide) ?_
            refine lv_iushr hx hb dJ6_numberOfTrailingZeros_0f7a4_77 rfl ?_
            refine lv_topi (fun z93 ez93 => ?_)
            have hz93 : z93.toInt = z90.toInt / 2 := ushr_l (P := 2) (k := 1) ez93 (by first | omega | ((try (have i_hz3 := Imp.go hz3 (by omega))); omega)) (by decide) (by decide) (by decide)
            refine lv_iadd hx hb dJ6_numberOfTrailingZeros_0f7a4_78 ?_
            refine lv_topi (fun z94 ez94 => ?_)
            have hz94 : z94.toInt = 29 + z93.toInt := i_add ez94 (by decide) rfl (by omega)
            exact W.iret (v := z94) hx hb hr (fun t ht hW => ⟨⟨z94, (), rfl, ⟨(show 0 ≤ z94.toInt ∧ z94.toInt ≤ 32 from by first | omega | ((try (have i_hz3 := Imp.go hz3 (by omega))); omega)), (fun m h0 hm => (show z94.toInt < (m : Int) from by
                have a := nty h0
                have a1 := a.2.1
                have a2 := a.2.2 m hm
                rcases (show z93.toInt = 0 ∨ z93.toInt = 1 ∨ z93.toInt = 2 from by omega) with hh | hh | hh
                · have q := ntz_k (P := 268435456) (k := 28) (m := m) (by decide) (by omega) a2 a1
                  omega
                · have q := ntz_k (P := 536870912) (k := 29) (m := m) (by decide) (by omega) a2 a1
                  omega
                · have q := ntz_k (P := 1073741824) (k := 30) (m := m) (by decide) (by omega) a2 a1
                  omega))⟩, by rw [ht]; exact hP, va_K.moved hW.alike hK, hD⟩, hS.F ht⟩) hS.2.2 dJ6_numberOfTrailingZeros_0f7a4_79
          · skip
            have f95 : 4 < z90.toInt := b_nle rfl (by decide) c91
            refine lv_iinc (v := 31) (lv' := [(1, .int 31), (0, .int z90)]) hx hb dJ6_numberOfTrailingZeros_0f7a4_67 hl (k := 1) rfl (by decide) (by decide) rfl (fun ls hl => ?_)
            refine lv_iload_n hx hb dJ6_numberOfTrailingZeros_0f7a4_70 rfl (lv_at hl 1 rfl) ?_
            refine lv_iconst (v := 2) hx hb dJ6_numberOfTrailingZeros_0f7a4_71 (by decide) ?_
            refine lv_iushr hx hb dJ6_numberOfTrailingZeros_0f7a4_72 rfl ?_
            refine lv_topi (fun z96 ez96 => ?_)
            have hz96 : z96.toInt = z90.toInt / 4 := ushr_l (P := 4) (k := 2) ez96 (by first | omega | ((try (have i_hz3 := Imp.go hz3 (by omega))); omega)) (by decide) (by decide) (by decide)
            refine lv_istore_n (lv' := [(0, .int z96), (1, .int 31)]) hx hb dJ6_numberOfTrailingZeros_0f7a4_73 rfl hl (by decide) rfl (fun ls hl => ?_)
            refine lv_iload_n hx hb dJ6_numberOfTrailingZeros_0f7a4_74 rfl (lv_at hl 1 rfl) ?_
            refine lv_iload_n hx hb dJ6_numberOfTrailingZeros_0f7a4_75 rfl (lv_at hl 0 rfl) ?_
            refine lv_iconst (v := 1) hx hb dJ6_numberOfTrailingZeros_0f7a4_76 (by decide) ?_
            refine lv_iushr hx hb dJ6_numberOfTrailingZeros_0f7a4_77 rfl ?_
            refine lv_topi (fun z97 ez97 => ?_)
            have hz97 : z97.toInt = z96.toInt / 2 := ushr_l (P := 2) (k := 1) ez97 (by first | omega | ((try (have i_hz3 := Imp.go hz3 (by omega))); omega)) (by decide) (by decide) (by decide)
            refine lv_iadd hx hb dJ6_numberOfTrailingZeros_0f7a4_78 ?_
            refine lv_topi (fun z98 ez98 => ?_)
            have hz98 : z98.toInt = 31 + z97.toInt := i_add ez98 (by decide) rfl (by omega)
            exact W.iret (v := z98) hx hb hr (fun t ht hW => ⟨⟨z98, (), rfl, ⟨(show 0 ≤ z98.toInt ∧ z98.toInt ≤ 32 from by first | omega | ((try (have i_hz3 := Imp.go hz3 (by omega))); omega)), (fun m h0 hm => (show z98.toInt < (m : Int) from by
                have a := nty h0
                have a1 := a.2.1
                have a2 := a.2.2 m hm
                rcases (show z97.toInt = 0 ∨ z97.toInt = 1 ∨ z97.toInt = 2 from by omega) with hh | hh | hh
                · have q := ntz_k (P := 1073741824) (k := 30) (m := m) (by decide) (by omega) a2 a1
                  omega
                · have q := ntz_k (P := 2147483648) (k := 31) (m := m) (by decide) (by omega) a2 a1
                  omega
                · have q := ntz_k (P := 4294967296) (k := 32) (m := m) (by decide) (by omega) a2 a1
                  omega))⟩, by rw [ht]; exact hP, va_K.moved hW.alike hK, hD⟩, hS.F ht⟩) hS.2.2 dJ6_numberOfTrailingZeros_0f7a4_79
  · skip
    have f99 : z4.toInt ≤ 0 := b_nlt (by decide) rfl c5
    refine lv_iload_n hx hb dJ6_numberOfTrailingZeros_0f7a4_12 rfl (lv_at hl 0 rfl) ?_
    refine lv_bipush (v := 32) hx hb dJ6_numberOfTrailingZeros_0f7a4_13 (by decide) ?_
    refine lv_iand hx hb dJ6_numberOfTrailingZeros_0f7a4_15 ?_
    refine lv_topi (fun z100 ez100 => ?_)
    have hq1 : 0 ≤ z100.toInt ∧ z100.toInt ≤ 32 := and_m ez100 (by decide)
    have hq2 : 0 ≤ z4.toInt → 0 ≤ z100.toInt ∧ z100.toInt ≤ z4.toInt := fun h => and_left ez100 h
    exact W.iret (v := z100) hx hb hr (fun t ht hW => ⟨⟨z100, (), rfl, ⟨(show 0 ≤ z100.toInt ∧ z100.toInt ≤ 32 from by first | exact om_83f5e4ef2f8c f99 hq1.1 hq2.2 | first | omega | ((try (have i_hz3 := Imp.go hz3 (by omega))); omega)), (fun m h0 hm => (show z100.toInt < (m : Int) from by have a := nty h0; have a1 := a.1; have b := hq2 a1; have c := ntz_0 h0 hm; omega))⟩, by rw [ht]; exact hP, va_K.moved hW.alike hK, hD⟩, hS.F ht⟩) hS.2.2 dJ6_numberOfTrailingZeros_0f7a4_16
abbrev r_x_candidates2 : Room := { frames := 1, cells := 0, slots := 0, locals := 22 }
abbrev q_x_candidates2 (D : va_G) (ks : KS) (ad : Nat → Nat) (kk : Nat → ClassId) (V : Vf) (L : Lf) (Z : XZ) (p0 : Int32) (p1 : Int32) (b : Nat) (A : Nat → Prop) : Array Value → State → Outcome → State → Prop := va_Qi (fun (r : Int32) (_ : Unit) => (0 ≤ r.toInt ∧ r.toInt ≤ 16777215)) (fun _ t => gq D A (xw ad kk V L Z) (xty kk Z) t) A
set_option maxHeartbeats 4000000 in
set_option maxRecDepth 100000 in
theorem x_candidates2 (l : Launch) (D : va_G) (ks : KS) (sz : Nat) (ad : Nat → Nat) (kk : Nat → ClassId) (V : Vf) (L : Lf) (Z : XZ) (p0 : Int32) (p1 : Int32) (b : Nat) (hMV : rgd bX V) (rg_p0 : 0 ≤ p0.toInt ∧ p0.toInt ≤ 23) (rg_p1 : 0 ≤ p1.toInt ∧ p1.toInt ≤ 7) (hb2 : b < 2)  : Met l yX0_candidates (Cond.code yX0_candidates cX0_candidates 12 (some .int) :: GW) r_x_candidates2 (va_Pc [.ref (ad (38 + b)), .int p0, .int p1] (gp D ks (xw ad kk V L Z) (xty kk Z) sz)) (q_x_candidates2 D ks ad kk V L Z p0 p1 b (va_A (xw ad kk V L Z) sz)) 0 0 (va_A (xw ad kk V L Z) sz) := by
  refine g_met (q_x_candidates2 D ks ad kk V L Z p0 p1 b) (by decide) (Nat.le_of_ble_eq_true rfl) ?_
  intro p e s m below meth c A ls H locs hx hb hr hml hown hg hlocks hin hnw hgk hP hK hD hS hA hl
  have hown : s.vm.findClass RX0 = some m.cls := hown
  have hl : lv_has ls 12 [(0, .ref (ad (38 + b))), (1, .int p0), (2, .int p1)] := hl
  have hP : va_P D vwCl (xw ad kk V L Z) H := hP
  have hD : va_D A (xw ad kk V L Z) := hD
  have hK : va_K D vwCl (xty kk Z) s := hK
  refine lv_aload_n hx hb dX0_candidates_0 rfl (lv_at hl 0 rfl) ?_
  refine va_get (D := D) (ci := 0) (v := .ref (ad (64 + b))) (fs := (xfBook ad V b)) (C := RX0) (T := TX0) (N := 13) hx hb hg inX0 hown hK hP (38 + b) (xgBook hb2) rfl 7 (by decide) (hg _ w614) (fun _ h9 => h9) rfl dX0_candidates_1 ?_
  refine lv_iload_n hx hb dX0_candidates_4 rfl (lv_at hl 1 rfl) ?_
  have il1 : b < 2 := by (first | exact om_f940a4667dd6 hb2 | omega)
  refine va_aldq (D := D) (i := p0) hx hb hK hP (64 + b) (57 + b) (xgcomps il1) (xtcomps il1) (i_in (a := p0.toInt) rfl (by (first | exact om_dbb25e99819b rg_p0.1 rg_p0.2 | omega))) dX0_candidates_5 ?_
  have kc2 := i_clamp (x := p0) rfl (by (first | exact om_eafa9039069c rg_p0.1 | omega))
  refine g_topv (v := .ref (ad (72 + (24 * b + (Int32.toNatClampNeg p0))))) (congrArg va_rf (if_pos (by omega))) ?_
  have il3 : (24 * b + (Int32.toNatClampNeg p0)) < 48 := by (first | exact om_22346e364ab0 rg_p0.2 hb2 kc2 | omega)
  refine lv_astore_n (lv' := [(3, .ref (ad (72 + (24 * b + (Int32.toNatClampNeg p0))))), (0, .ref (ad (38 + b))), (1, .int p0), (2, .int p1)]) hx hb dX0_candidates_6 rfl hl (by decide) rfl (fun ls hl => ?_)
  refine lv_aload_n hx hb dX0_candidates_7 rfl (lv_at hl 0 rfl) ?_
  refine va_getN (D := D) (ci := 3) (v := .ref (ad (216 + (24 * b + (Int32.toNatClampNeg p0))))) (fs := (xfComp ad V (24 * b + (Int32.toNatClampNeg p0)))) (C := RX3) (T := TX3) (N := 13) hx hb hg inX3 hown hK hP (72 + (24 * b + (Int32.toNatClampNeg p0))) (xgComp il3) rfl 2 (by decide) (hnw.use 505 n505 rfl) (fun _ h9 => h9) rfl dX0_candidates_8 ?_
  refine lv_iload_n hx hb dX0_candidates_11 rfl (lv_at hl 3 rfl) ?_
  have il4 : (24 * b + (Int32.toNatClampNeg p0)) < 48 := by (first | exact om_22346e364ab0 rg_p0.2 hb2 kc2 | omega)
  refine va_iald (D := D) (i := p1) hx hb hK hP (216 + (24 * b + (Int32.toNatClampNeg p0))) (209 + (24 * b + (Int32.toNatClampNeg p0))) (xgneedKinds il4) (xtneedKinds il4) (i_in (a := p1.toInt) rfl (by omega)) dX0_candidates_12 ?_
  have kc5 := i_clamp (x := p1) rfl (by (first | exact om_eafa9039069c rg_p1.1 | omega))
  refine g_top (v := V 60 (8 * (24 * b + (Int32.toNatClampNeg p0)) + (Int32.toNatClampNeg p1))) (if_pos (by omega)) ?_
  refine lv_istore (lv' := [(4, .int (V 60 (8 * (24 * b + (Int32.toNatClampNeg p0)) + (Int32.toNatClampNeg p1)))), (3, .ref (ad (72 + (24 * b + (Int32.toNatClampNeg p0))))), (0, .ref (ad (38 + b))), (1, .int p0), (2, .int p1)]) hx hb dX0_candidates_13 hl (by decide) rfl (fun ls hl => ?_)
  refine lv_aload_n hx hb dX0_candidates_15 rfl (lv_at hl 1 rfl) ?_
  refine va_getN (D := D) (ci := 3) (v := .ref (ad (120 + (24 * b + (Int32.toNatClampNeg p0))))) (fs := (xfComp ad V (24 * b + (Int32.toNatClampNeg p0)))) (C := RX3) (T := TX3) (N := 13) hx hb hg inX3 hown hK hP (72 + (24 * b + (Int32.toNatClampNeg p0))) (xgComp il3) rfl 0 (by decide) (hnw.use 500 n500 rfl) (fun _ h9 => h9) rfl dX0_candidates_16 ?_
  refine lv_iload_n hx hb dX0_candidates_19 rfl (lv_at hl 4 rfl) ?_
  have il6 : (24 * b + (Int32.toNatClampNeg p0)) < 48 := by (first | exact om_22346e364ab0 rg_p0.2 hb2 kc2 | omega)
  refine va_iald (D := D) (i := p1) hx hb hK hP (120 + (24 * b + (Int32.toNatClampNeg p0))) (113 + (24 * b + (Int32.toNatClampNeg p0))) (xgneedTypes il6) (xtneedTypes il6) (i_in (a := p1.toInt) rfl (by omega)) dX0_candidates_20 ?_
  refine g_top (v := V 58 (8 * (24 * b + (Int32.toNatClampNeg p0)) + (Int32.toNatClampNeg p1))) (if_pos (by omega)) ?_
  refine lv_istore (lv' := [(5, .int (V 58 (8 * (24 * b + (Int32.toNatClampNeg p0)) + (Int32.toNatClampNeg p1)))), (4, .int (V 60 (8 * (24 * b + (Int32.toNatClampNeg p0)) + (Int32.toNatClampNeg p1)))), (3, .ref (ad (72 + (24 * b + (Int32.toNatClampNeg p0))))), (0, .ref (ad (38 + b))), (1, .int p0), (2, .int p1)]) hx hb dX0_candidates_21 hl (by decide) rfl (fun ls hl => ?_)
  refine lv_aload_n hx hb dX0_candidates_23 rfl (lv_at hl 2 rfl) ?_
  refine va_getN (D := D) (ci := 3) (v := .ref (ad (168 + (24 * b + (Int32.toNatClampNeg p0))))) (fs := (xfComp ad V (24 * b + (Int32.toNatClampNeg p0)))) (C := RX3) (T := TX3) (N := 13) hx hb hg inX3 hown hK hP (72 + (24 * b + (Int32.toNatClampNeg p0))) (xgComp il3) rfl 1 (by decide) (hnw.use 502 n502 rfl) (fun _ h9 => h9) rfl dX0_candidates_24 ?_
  refine lv_iload_n hx hb dX0_candidates_27 rfl (lv_at hl 5 rfl) ?_
  have il7 : (24 * b + (Int32.toNatClampNeg p0)) < 48 := by (first | exact om_22346e364ab0 rg_p0.2 hb2 kc2 | omega)
  refine va_iald (D := D) (i := p1) hx hb hK hP (168 + (24 * b + (Int32.toNatClampNeg p0))) (161 + (24 * b + (Int32.toNatClampNeg p0))) (xgneedWords il7) (xtneedWords il7) (i_in (a := p1.toInt) rfl (by omega)) dX0_candidates_28 ?_
  refine g_top (v := V 59 (8 * (24 * b + (Int32.toNatClampNeg p0)) + (Int32.toNatClampNeg p1))) (if_pos (by omega)) ?_
  refine lv_istore (lv' := [(6, .int (V 59 (8 * (24 * b + (Int32.toNatClampNeg p0)) + (Int32.toNatClampNeg p1)))), (5, .int (V 58 (8 * (24 * b + (Int32.toNatClampNeg p0)) + (Int32.toNatClampNeg p1)))), (4, .int (V 60 (8 * (24 * b + (Int32.toNatClampNeg p0)) + (Int32.toNatClampNeg p1)))), (3, .ref (ad (72 + (24 * b + (Int32.toNatClampNeg p0))))), (0, .ref (ad (38 + b))), (1, .int p0), (2, .int p1)]) hx hb dX0_candidates_29 hl (by decide) rfl (fun ls hl => ?_)
  refine lv_iconst (v := 0) hx hb dX0_candidates_31 (by decide) ?_
  refine lv_istore (lv' := [(7, .int 0), (6, .int (V 59 (8 * (24 * b + (Int32.toNatClampNeg p0)) + (Int32.toNatClampNeg p1)))), (5, .int (V 58 (8 * (24 * b + (Int32.toNatClampNeg p0)) + (Int32.toNatClampNeg p1)))), (4, .int (V 60 (8 * (24 * b + (Int32.toNatClampNeg p0)) + (Int32.toNatClampNeg p1)))), (3, .ref (ad (72 + (24 * b + (Int32.toNatClampNeg p0))))), (0, .ref (ad (38 + b))), (1, .int p0), (2, .int p1)]) hx hb dX0_candidates_32 hl (by decide) rfl (fun ls hl => ?_)
  refine lv_iconst (v := 0) hx hb dX0_candidates_34 (by decide) ?_
  refine lv_istore (lv' := [(8, .int 0), (7, .int 0), (6, .int (V 59 (8 * (24 * b + (Int32.toNatClampNeg p0)) + (Int32.toNatClampNeg p1)))), (5, .int (V 58 (8 * (24 * b + (Int32.toNatClampNeg p0)) + (Int32.toNatClampNeg p1)))), (4, .int (V 60 (8 * (24 * b + (Int32.toNatClampNeg p0)) + (Int32.toNatClampNeg p1)))), (3, .ref (ad (72 + (24 * b + (Int32.toNatClampNeg p0))))), (0, .ref (ad (38 + b))), (1, .int p0), (2, .int p1)]) hx hb dX0_candidates_35 hl (by decide) rfl (fun ls hl => ?_)
  refine lv_iconst (v := 0) hx hb dX0_candidates_37 (by decide) ?_
  refine lv_istore (lv' := [(9, .int 0), (8, .int 0), (7, .int 0), (6, .int (V 59 (8 * (24 * b + (Int32.toNatClampNeg p0)) + (Int32.toNatClampNeg p1)))), (5, .int (V 58 (8 * (24 * b + (Int32.toNatClampNeg p0)) + (Int32.toNatClampNeg p1)))), (4, .int (V 60 (8 * (24 * b + (Int32.toNatClampNeg p0)) + (Int32.toNatClampNeg p1)))), (3, .ref (ad (72 + (24 * b + (Int32.toNatClampNeg p0))))), (0, .ref (ad (38 + b))), (1, .int p0), (2, .int p1)]) hx hb dX0_candidates_38 hl (by decide) rfl (fun ls hl => ?_)
  have lp11 : ∀ (fulp11 : Nat) (y8 : Int32) (y9 : Int32) (y10 : Int32) (H : Heap) (locs : List Loc) (ls : Array Slot), 0 ≤ y8.toInt ∧ y8.toInt ≤ 24 → 0 ≤ y10.toInt ∧ y10.toInt ≤ 16777215 → 24 - y8.toInt < (fulp11 : Int) → va_P D vwCl (xw ad kk V L Z) H → va_D A (xw ad kk V L Z) → va_S A s.heap H locs → lv_has ls 12 [(9, .int y8), (8, .int y9), (7, .int y10), (6, .int (V 59 (8 * (24 * b + (Int32.toNatClampNeg p0)) + (Int32.toNatClampNeg p1)))), (5, .int (V 58 (8 * (24 * b + (Int32.toNatClampNeg p0)) + (Int32.toNatClampNeg p1)))), (4, .int (V 60 (8 * (24 * b + (Int32.toNatClampNeg p0)) + (Int32.toNatClampNeg p1)))), (3, .ref (ad (72 + (24 * b + (Int32.toNatClampNeg p0))))), (0, .ref (ad (38 + b))), (1, .int p0), (2, .int p1)] → W p l e r_x_candidates2 s m ([.ref (ad (38 + b)), .int p0, .int p1] : List Value).toArray below meth c H locs 0 0 (MQ below (q_x_candidates2 D ks ad kk V L Z p0 p1 b A) ([.ref (ad (38 + b)), .int p0, .int p1] : List Value).toArray s 0 0 A) (F0 m 40 ls []) := by
    intro fulp11
    induction fulp11 with
    | zero =>
      intro y8 y9 y10 H locs ls klp11_0 klp11_1 hn  hP hD hS hl
      exfalso; (first | exact om_9386ef0df612 klp11_0.2 hn | omega)
    | succ fulp11 ihlp11 =>
      intro y8 y9 y10 H locs ls klp11_0 klp11_1 hn  hP hD hS hl
      refine lv_iload hx hb dX0_candidates_40 (lv_at hl 0 rfl) ?_
      refine lv_aload_n hx hb dX0_candidates_42 rfl (lv_at hl 7 rfl) ?_
      refine va_get (D := D) (ci := 0) (v := .ref (ad (40 + (5 * b + 2)))) (fs := (xfBook ad V b)) (C := RX0) (T := TX0) (N := 13) hx hb hg inX0 hown hK hP (38 + b) (xgBook hb2) rfl 2 (by decide) (hg _ w599) (fun _ h9 => h9) rfl dX0_candidates_43 ?_
      have il12 : (5 * b + 2) < 10 := by (first | exact om_1478e52fbf50 hb2 | omega)
      refine va_getN (D := D) (ci := 6) (v := .int (V 43 (5 * b + 2))) (fs := (xfNames ad V (5 * b + 2))) (C := RX6) (T := TX6) (N := 2) hx hb hg inX6 hown hK hP (40 + (5 * b + 2)) (xgNames il12) rfl 1 (by decide) (hnw.use 481 n481 rfl) (fun _ h9 => h9) rfl dX0_candidates_46 ?_
      have r13 : 0 ≤ ((V 43 (5 * b + 2))).toInt ∧ ((V 43 (5 * b + 2))).toInt ≤ ((xcap (5 * b + 2) : Nat) : Int) := hMV 43 (5 * b + 2)
      have r14 : xcap (5 * b + 2) = 24 := xcap_2
      refine lv_icmp_ge (tgt := 171) hx hb dX0_candidates_49 (by decide) (fun c15 => ?_) (fun c15 => ?_)
      · skip
        have f16 : ((V 43 (5 * b + 2))).toInt ≤ y8.toInt := b_le rfl rfl c15
        refine lv_iload hx hb dX0_candidates_171 (lv_at hl 2 rfl) ?_
        exact W.iret (v := y10) hx hb hr (fun t ht hW => ⟨⟨y10, (), rfl, (show 0 ≤ y10.toInt ∧ y10.toInt ≤ 16777215 from by (first | exact om_c51a6401fccc klp11_1.1 klp11_1.2 | omega)), by rw [ht]; exact hP, va_K.moved hW.alike hK, hD⟩, hS.F ht⟩) hS.2.2 dX0_candidates_173
      · skip
        have f17 : y8.toInt < ((V 43 (5 * b + 2))).toInt := b_nle rfl rfl c15
        refine lv_aload_n hx hb dX0_candidates_52 rfl (lv_at hl 7 rfl) ?_
        refine va_get (D := D) (ci := 0) (v := .ref (ad (64 + b))) (fs := (xfBook ad V b)) (C := RX0) (T := TX0) (N := 13) hx hb hg inX0 hown hK hP (38 + b) (xgBook hb2) rfl 7 (by decide) (hg _ w614) (fun _ h9 => h9) rfl dX0_candidates_53 ?_
        refine lv_iload hx hb dX0_candidates_56 (lv_at hl 0 rfl) ?_
        refine va_aldq (D := D) (i := y8) hx hb hK hP (64 + b) (57 + b) (xgcomps il1) (xtcomps il1) (i_in (a := y8.toInt) rfl (by (first | exact om_9f35ed8d252f klp11_0.1 r13.2 r14 f17 | omega))) dX0_candidates_58 ?_
        have kc18 := i_clamp (x := y8) rfl (by (first | exact om_eafa9039069c klp11_0.1 | omega))
        refine g_topv (v := .ref (ad (72 + (24 * b + (Int32.toNatClampNeg y8))))) (congrArg va_rf (if_pos (by omega))) ?_
        have il19 : (24 * b + (Int32.toNatClampNeg y8)) < 48 := by (first | exact om_896e2f636ed1 hb2 r13.2 r14 f17 kc18 | omega)
        refine lv_astore (lv' := [(10, .ref (ad (72 + (24 * b + (Int32.toNatClampNeg y8))))), (9, .int y8), (8, .int y9), (7, .int y10), (6, .int (V 59 (8 * (24 * b + (Int32.toNatClampNeg p0)) + (Int32.toNatClampNeg p1)))), (5, .int (V 58 (8 * (24 * b + (Int32.toNatClampNeg p0)) + (Int32.toNatClampNeg p1)))), (4, .int (V 60 (8 * (24 * b + (Int32.toNatClampNeg p0)) + (Int32.toNatClampNeg p1)))), (3, .ref (ad (72 + (24 * b + (Int32.toNatClampNeg p0))))), (0, .ref (ad (38 + b))), (1, .int p0), (2, .int p1)]) hx hb dX0_candidates_59 hl (by decide) rfl (fun ls hl => ?_)
        refine lv_iload hx hb dX0_candidates_61 (lv_at hl 4 rfl) ?_
        refine lv_iconst (v := (-1)) hx hb dX0_candidates_63 (by decide) ?_
        refine lv_icmp_eq (tgt := 77) hx hb dX0_candidates_64 (by decide) (fun c20 => ?_) (fun c20 => ?_)
        · skip
          have f21 : ((V 59 (8 * (24 * b + (Int32.toNatClampNeg p0)) + (Int32.toNatClampNeg p1)))).toInt = (-1) := b_eq rfl (by decide) c20
          refine lv_iconst (v := 1) hx hb dX0_candidates_77 (by decide) ?_
          refine lv_goto (tgt := 82) hx hb dX0_candidates_78 (by decide) ?_
          refine lv_istore (lv' := [(11, .int 1), (10, .ref (ad (72 + (24 * b + (Int32.toNatClampNeg y8))))), (9, .int y8), (8, .int y9), (7, .int y10), (6, .int (V 59 (8 * (24 * b + (Int32.toNatClampNeg p0)) + (Int32.toNatClampNeg p1)))), (5, .int (V 58 (8 * (24 * b + (Int32.toNatClampNeg p0)) + (Int32.toNatClampNeg p1)))), (4, .int (V 60 (8 * (24 * b + (Int32.toNatClampNeg p0)) + (Int32.toNatClampNeg p1)))), (3, .ref (ad (72 + (24 * b + (Int32.toNatClampNeg p0))))), (0, .ref (ad (38 + b))), (1, .int p0), (2, .int p1)]) hx hb dX0_candidates_82 hl (by decide) rfl (fun ls hl => ?_)
          refine lv_aload hx hb dX0_candidates_84 (lv_at hl 1 rfl) ?_
          refine va_getN (D := D) (ci := 3) (v := .int (V 50 (24 * b + (Int32.toNatClampNeg y8)))) (fs := (xfComp ad V (24 * b + (Int32.toNatClampNeg y8)))) (C := RX3) (T := TX3) (N := 13) hx hb hg inX3 hown hK hP (72 + (24 * b + (Int32.toNatClampNeg y8))) (xgComp il19) rfl 5 (by decide) (hnw.use 517 n517 rfl) (fun _ h9 => h9) rfl dX0_candidates_86 ?_
          refine lv_iload hx hb dX0_candidates_89 (lv_at hl 6 rfl) ?_
          refine lv_ishr hx hb dX0_candidates_91 ?_
          refine lv_topi (fun z22 ez22 => ?_)
          refine lv_iconst (v := 1) hx hb dX0_candidates_92 (by decide) ?_
          refine lv_iand hx hb dX0_candidates_93 ?_
          refine lv_topi (fun z23 ez23 => ?_)
          have hz23 : 0 ≤ z23.toInt ∧ z23.toInt ≤ 1 := and_m ez23 (by decide)
          refine lv_if_eq (tgt := 165) hx hb dX0_candidates_94 (by decide) (fun c24 => ?_) (fun c24 => ?_)
          · skip
            have f25 : z23.toInt = 0 := b_eq rfl (by decide) c24
            obtain ⟨z26, ez26⟩ : ∃ y : Int32, y = y8 + 1 := ⟨_, rfl⟩
            have hz26 : z26.toInt = y8.toInt + 1 := i_add ez26 rfl (by decide) (by (first | exact om_c7103e519a6e klp11_0.1 r13.2 r14 f17 | omega))
            refine lv_iinc (v := z26) (lv' := [(9, .int z26), (11, .int 1), (10, .ref (ad (72 + (24 * b + (Int32.toNatClampNeg y8))))), (8, .int y9), (7, .int y10), (6, .int (V 59 (8 * (24 * b + (Int32.toNatClampNeg p0)) + (Int32.toNatClampNeg p1)))), (5, .int (V 58 (8 * (24 * b + (Int32.toNatClampNeg p0)) + (Int32.toNatClampNeg p1)))), (4, .int (V 60 (8 * (24 * b + (Int32.toNatClampNeg p0)) + (Int32.toNatClampNeg p1)))), (3, .ref (ad (72 + (24 * b + (Int32.toNatClampNeg p0))))), (0, .ref (ad (38 + b))), (1, .int p0), (2, .int p1)]) hx hb dX0_candidates_165 hl (k := 2) rfl (by rw [ez26]; rfl) (by decide) rfl (fun ls hl => ?_)
            refine lv_goto (tgt := 40) hx hb dX0_candidates_168 (by decide) ?_
            have r27 : Int32.toInt 1 = 1 := by decide
            exact ihlp11 z26 y9 y10 H locs ls (by (first | exact om_ebd92ed44179 klp11_0.1 r13.2 r14 f17 hz26 | omega)) (by (first | exact om_c51a6401fccc klp11_1.1 klp11_1.2 | omega)) (by (first | exact om_9592d9319ffa hn hz26 | omega)) hP hD hS (lv_sub hl [0, 3, 4, 5, 6, 7, 8, 9, 10, 11] rfl)
          · skip
            have f28 : z23.toInt ≠ 0 := b_neq rfl (by decide) c24
            refine lv_iload hx hb dX0_candidates_97 (lv_at hl 0 rfl) ?_
            refine lv_if_eq (tgt := 165) hx hb dX0_candidates_99 (by decide) (fun q => absurd q (by decide)) (fun _ => ?_)
            refine lv_aload_n hx hb dX0_candidates_102 rfl (lv_at hl 9 rfl) ?_
            refine lv_iload hx hb dX0_candidates_103 (lv_at hl 2 rfl) ?_
            refine gA_int (gA_runV (As := [.int y8]) (rest := []) (ci := 0) (q0 := (38 + b)) hx hb hml hown hg hP hD hK hS hA hnw hgk (x_isThere l D ks H.size ad kk V L Z y8 (b) hMV (by (first | exact om_5ea855d61ca3 klp11_0.1 r13.2 r14 f17 | omega)) (show b < 2 from by (first | exact om_f940a4667dd6 hb2 | omega))) w1085 w1070 w1071 w167 w1072 rfl (xgBook hb2) hdV_yX0_isThere ⟨Nat.le_of_ble_eq_true rfl, Nat.le_of_ble_eq_true rfl⟩ rfl hl.1 rfl (Nat.le_of_ble_eq_true rfl) dX0_candidates_105 ⟨Nat.le_of_ble_eq_true rfl, Nat.le_of_ble_eq_true rfl⟩) hP hD hK hS hA (fun z29 u30 H locs w31 hP hD hK hS => ?_)
            have rgz29 := w31
            have rgz29 : 0 ≤ z29.toInt ∧ z29.toInt ≤ 1 := rgz29
            refine lv_if_ne (tgt := 114) hx hb dX0_candidates_108 (by decide) (fun c32 => ?_) (fun c32 => ?_)
            · skip
              have f33 : z29.toInt ≠ 0 := b_neq rfl (by decide) c32
              refine lv_iload hx hb dX0_candidates_114 (lv_at hl 7 rfl) ?_
              refine lv_iconst (v := 2) hx hb dX0_candidates_116 (by decide) ?_
              refine lv_icmp_eq (tgt := 140) hx hb dX0_candidates_117 (by decide) (fun c34 => ?_) (fun c34 => ?_)
              · skip
                have f35 : ((V 60 (8 * (24 * b + (Int32.toNatClampNeg p0)) + (Int32.toNatClampNeg p1)))).toInt = 2 := b_eq rfl (by decide) c34
                refine lv_iload hx hb dX0_candidates_140 (lv_at hl 7 rfl) ?_
                refine lv_iconst (v := 2) hx hb dX0_candidates_142 (by decide) ?_
                refine lv_icmp_eq (tgt := 156) hx hb dX0_candidates_143 (by decide) (fun c36 => ?_) (fun c36 => ?_)
                · skip
                  have f37 : ((V 60 (8 * (24 * b + (Int32.toNatClampNeg p0)) + (Int32.toNatClampNeg p1)))).toInt = 2 := b_eq rfl (by decide) c36
                  refine lv_iload hx hb dX0_candidates_156 (lv_at hl 4 rfl) ?_
                  refine lv_iconst (v := 1) hx hb dX0_candidates_158 (by decide) ?_
                  refine lv_iload hx hb dX0_candidates_159 (lv_at hl 2 rfl) ?_
                  refine lv_ishl hx hb dX0_candidates_161 ?_
                  refine lv_topi (fun z38 ez38 => ?_)
                  have hz38 : 0 ≤ z38.toInt ∧ z38.toInt < 16777216 := shl1 ez38 (by omega)
                  refine lv_ior hx hb dX0_candidates_162 ?_
                  refine lv_topi (fun z39 ez39 => ?_)
                  have hz39 : 0 ≤ z39.toInt ∧ z39.toInt < 16777216 := or24 ez39 (by omega) (by omega)
                  refine lv_istore (lv' := [(7, .int z39), (11, .int 1), (10, .ref (ad (72 + (24 * b + (Int32.toNatClampNeg y8))))), (9, .int y8), (8, .int y9), (6, .int (V 59 (8 * (24 * b + (Int32.toNatClampNeg p0)) + (Int32.toNatClampNeg p1)))), (5, .int (V 58 (8 * (24 * b + (Int32.toNatClampNeg p0)) + (Int32.toNatClampNeg p1)))), (4, .int (V 60 (8 * (24 * b + (Int32.toNatClampNeg p0)) + (Int32.toNatClampNeg p1)))), (3, .ref (ad (72 + (24 * b + (Int32.toNatClampNeg p0))))), (0, .ref (ad (38 + b))), (1, .int p0), (2, .int p1)]) hx hb dX0_candidates_163 hl (by decide) rfl (fun ls hl => ?_)
                  obtain ⟨z40, ez40⟩ : ∃ y : Int32, y = y8 + 1 := ⟨_, rfl⟩
                  have hz40 : z40.toInt = y8.toInt + 1 := i_add ez40 rfl (by decide) (by (first | exact om_c7103e519a6e klp11_0.1 r13.2 r14 f17 | omega))
                  refine lv_iinc (v := z40) (lv' := [(9, .int z40), (7, .int z39), (11, .int 1), (10, .ref (ad (72 + (24 * b + (Int32.toNatClampNeg y8))))), (8, .int y9), (6, .int (V 59 (8 * (24 * b + (Int32.toNatClampNeg p0)) + (Int32.toNatClampNeg p1)))), (5, .int (V 58 (8 * (24 * b + (Int32.toNatClampNeg p0)) + (Int32.toNatClampNeg p1)))), (4, .int (V 60 (8 * (24 * b + (Int32.toNatClampNeg p0)) + (Int32.toNatClampNeg p1)))), (3, .ref (ad (72 + (24 * b + (Int32.toNatClampNeg p0))))), (0, .ref (ad (38 + b))), (1, .int p0), (2, .int p1)]) hx hb dX0_candidates_165 hl (k := 3) rfl (by rw [ez40]; rfl) (by decide) rfl (fun ls hl => ?_)
                  refine lv_goto (tgt := 40) hx hb dX0_candidates_168 (by decide) ?_
                  have r41 : Int32.toInt 1 = 1 := by decide
                  exact ihlp11 z40 y9 z39 H locs ls (by (first | exact om_ebd92ed44179 klp11_0.1 r13.2 r14 f17 hz40 | omega)) (by (first | exact om_8a0dcf576dcd hz39.1 hz39.2 | omega)) (by (first | exact om_9592d9319ffa hn hz40 | omega)) hP hD hS (lv_sub hl [0, 4, 1, 5, 6, 7, 8, 9, 10, 11] rfl)
                · skip
                  have f42 : ((V 60 (8 * (24 * b + (Int32.toNatClampNeg p0)) + (Int32.toNatClampNeg p1)))).toInt ≠ 2 := b_neq rfl (by decide) c36
                  exfalso; (first | exact om_da4eef675bfb f35 f42 | omega)
              · skip
                have f43 : ((V 60 (8 * (24 * b + (Int32.toNatClampNeg p0)) + (Int32.toNatClampNeg p1)))).toInt ≠ 2 := b_neq rfl (by decide) c34
                refine lv_aload hx hb dX0_candidates_120 (lv_at hl 1 rfl) ?_
                refine va_getN (D := D) (ci := 3) (v := .int (V 53 (24 * b + (Int32.toNatClampNeg y8)))) (fs := (xfComp ad V (24 * b + (Int32.toNatClampNeg y8)))) (C := RX3) (T := TX3) (N := 13) hx hb hg inX3 hown hK hP (72 + (24 * b + (Int32.toNatClampNeg y8))) (xgComp il19) rfl 8 (by decide) (hnw.use 529 n529 rfl) (fun _ h9 => h9) rfl dX0_candidates_122 ?_
                refine lv_iload hx hb dX0_candidates_125 (lv_at hl 3 rfl) ?_
                refine lv_icmp_le (tgt := 140) hx hb dX0_candidates_127 (by decide) (fun c44 => ?_) (fun c44 => ?_)
                · skip
                  have f45 : ((V 53 (24 * b + (Int32.toNatClampNeg y8)))).toInt ≤ y9.toInt := b_le rfl rfl c44
                  refine lv_iload hx hb dX0_candidates_140 (lv_at hl 7 rfl) ?_
                  refine lv_iconst (v := 2) hx hb dX0_candidates_142 (by decide) ?_
                  refine lv_icmp_eq (tgt := 156) hx hb dX0_candidates_143 (by decide) (fun c46 => ?_) (fun c46 => ?_)
                  · skip
                    have f47 : ((V 60 (8 * (24 * b + (Int32.toNatClampNeg p0)) + (Int32.toNatClampNeg p1)))).toInt = 2 := b_eq rfl (by decide) c46
                    refine lv_iload hx hb dX0_candidates_156 (lv_at hl 4 rfl) ?_
                    refine lv_iconst (v := 1) hx hb dX0_candidates_158 (by decide) ?_
                    refine lv_iload hx hb dX0_candidates_159 (lv_at hl 2 rfl) ?_
                    refine lv_ishl hx hb dX0_candidates_161 ?_
                    refine lv_topi (fun z48 ez48 => ?_)
                    have hz48 : 0 ≤ z48.toInt ∧ z48.toInt < 16777216 := shl1 ez48 (by omega)
                    refine lv_ior hx hb dX0_candidates_162 ?_
                    refine lv_topi (fun z49 ez49 => ?_)
                    have hz49 : 0 ≤ z49.toInt ∧ z49.toInt < 16777216 := or24 ez49 (by omega) (by omega)
                    refine lv_istore (lv' := [(7, .int z49), (11, .int 1), (10, .ref (ad (72 + (24 * b + (Int32.toNatClampNeg y8))))), (9, .int y8), (8, .int y9), (6, .int (V 59 (8 * (24 * b + (Int32.toNatClampNeg p0)) + (Int32.toNatClampNeg p1)))), (5, .int (V 58 (8 * (24 * b + (Int32.toNatClampNeg p0)) + (Int32.toNatClampNeg p1)))), (4, .int (V 60 (8 * (24 * b + (Int32.toNatClampNeg p0)) + (Int32.toNatClampNeg p1)))), (3, .ref (ad (72 + (24 * b + (Int32.toNatClampNeg p0))))), (0, .ref (ad (38 + b))), (1, .int p0), (2, .int p1)]) hx hb dX0_candidates_163 hl (by decide) rfl (fun ls hl => ?_)
                    obtain ⟨z50, ez50⟩ : ∃ y : Int32, y = y8 + 1 := ⟨_, rfl⟩
                    have hz50 : z50.toInt = y8.toInt + 1 := i_add ez50 rfl (by decide) (by omega)
                    refine lv_iinc (v := z50) (lv' := [(9, .int z50), (7, .int z49), (11, .int 1), (10, .ref (ad (72 + (24 * b + (Int32.toNatClampNeg y8))))), (8, .int y9), (6, .int (V 59 (8 * (24 * b + (Int32.toNatClampNeg p0)) + (Int32.toNatClampNeg p1)))), (5, .int (V 58 (8 * (24 * b + (Int32.toNatClampNeg p0)) + (Int32.toNatClampNeg p1)))), (4, .int (V 60 (8 * (24 * b + (Int32.toNatClampNeg p0)) + (Int32.toNatClampNeg p1)))), (3, .ref (ad (72 + (24 * b + (Int32.toNatClampNeg p0))))), (0, .ref (ad (38 + b))), (1, .int p0), (2, .int p1)]) hx hb dX0_candidates_165 hl (k := 3) rfl (by rw [ez50]; rfl) (by decide) rfl (fun ls hl => ?_)
                    refine lv_goto (tgt := 40) hx hb dX0_candidates_168 (by decide) ?_
                    have r51 : Int32.toInt 1 = 1 := by decide
                    exact ihlp11 z50 y9 z49 H locs ls (by omega) (by omega) (by omega) hP hD hS (lv_sub hl [0, 4, 1, 5, 6, 7, 8, 9, 10, 11] rfl)
                  · skip
                    have f52 : ((V 60 (8 * (24 * b + (Int32.toNatClampNeg p0)) + (Int32.toNatClampNeg p1)))).toInt ≠ 2 := b_neq rfl (by decide) c46
                    refine lv_aload hx hb dX0_candidates_146 (lv_at hl 1 rfl) ?_
                    refine va_getN (D := D) (ci := 3) (v := .int (V 53 (24 * b + (Int32.toNatClampNeg y8)))) (fs := (xfComp ad V (24 * b + (Int32.toNatClampNeg y8)))) (C := RX3) (T := TX3) (N := 13) hx hb hg inX3 hown hK hP (72 + (24 * b + (Int32.toNatClampNeg y8))) (xgComp il19) rfl 8 (by decide) (hnw.use 529 n529 rfl) (fun _ h9 => h9) rfl dX0_candidates_148 ?_
                    refine lv_iload hx hb dX0_candidates_151 (lv_at hl 3 rfl) ?_
                    refine lv_icmp_ne (tgt := 165) hx hb dX0_candidates_153 (by decide) (fun c53 => ?_) (fun c53 => ?_)
                    · skip
                      have f54 : ((V 53 (24 * b + (Int32.toNatClampNeg y8)))).toInt ≠ y9.toInt := b_neq rfl rfl c53
                      obtain ⟨z55, ez55⟩ : ∃ y : Int32, y = y8 + 1 := ⟨_, rfl⟩
                      have hz55 : z55.toInt = y8.toInt + 1 := i_add ez55 rfl (by decide) (by (first | exact om_c7103e519a6e klp11_0.1 r13.2 r14 f17 | omega))
                      refine lv_iinc (v := z55) (lv' := [(9, .int z55), (11, .int 1), (10, .ref (ad (72 + (24 * b + (Int32.toNatClampNeg y8))))), (8, .int y9), (7, .int y10), (6, .int (V 59 (8 * (24 * b + (Int32.toNatClampNeg p0)) + (Int32.toNatClampNeg p1)))), (5, .int (V 58 (8 * (24 * b + (Int32.toNatClampNeg p0)) + (Int32.toNatClampNeg p1)))), (4, .int (V 60 (8 * (24 * b + (Int32.toNatClampNeg p0)) + (Int32.toNatClampNeg p1)))), (3, .ref (ad (72 + (24 * b + (Int32.toNatClampNeg p0))))), (0, .ref (ad (38 + b))), (1, .int p0), (2, .int p1)]) hx hb dX0_candidates_165 hl (k := 2) rfl (by rw [ez55]; rfl) (by decide) rfl (fun ls hl => ?_)
                      refine lv_goto (tgt := 40) hx hb dX0_candidates_168 (by decide) ?_
                      have r56 : Int32.toInt 1 = 1 := by decide
                      exact ihlp11 z55 y9 y10 H locs ls (by (first | exact om_ebd92ed44179 klp11_0.1 r13.2 r14 f17 hz55 | omega)) (by (first | exact om_c51a6401fccc klp11_1.1 klp11_1.2 | omega)) (by (first | exact om_9592d9319ffa hn hz55 | omega)) hP hD hS (lv_sub hl [0, 3, 4, 5, 6, 7, 8, 9, 10, 11] rfl)
                    · skip
                      have f57 : ((V 53 (24 * b + (Int32.toNatClampNeg y8)))).toInt = y9.toInt := b_eq rfl rfl c53
                      refine lv_iload hx hb dX0_candidates_156 (lv_at hl 4 rfl) ?_
                      refine lv_iconst (v := 1) hx hb dX0_candidates_158 (by decide) ?_
                      refine lv_iload hx hb dX0_candidates_159 (lv_at hl 2 rfl) ?_
                      refine lv_ishl hx hb dX0_candidates_161 ?_
                      refine lv_topi (fun z58 ez58 => ?_)
                      have hz58 : 0 ≤ z58.toInt ∧ z58.toInt < 16777216 := shl1 ez58 (by omega)
                      refine lv_ior hx hb dX0_candidates_162 ?_
                      refine lv_topi (fun z59 ez59 => ?_)
                      have hz59 : 0 ≤ z59.toInt ∧ z59.toInt < 16777216 := or24 ez59 (by omega) (by omega)
                      refine lv_istore (lv' := [(7, .int z59), (11, .int 1), (10, .ref (ad (72 + (24 * b + (Int32.toNatClampNeg y8))))), (9, .int y8), (8, .int y9), (6, .int (V 59 (8 * (24 * b + (Int32.toNatClampNeg p0)) + (Int32.toNatClampNeg p1)))), (5, .int (V 58 (8 * (24 * b + (Int32.toNatClampNeg p0)) + (Int32.toNatClampNeg p1)))), (4, .int (V 60 (8 * (24 * b + (Int32.toNatClampNeg p0)) + (Int32.toNatClampNeg p1)))), (3, .ref (ad (72 + (24 * b + (Int32.toNatClampNeg p0))))), (0, .ref (ad (38 + b))), (1, .int p0), (2, .int p1)]) hx hb dX0_candidates_163 hl (by decide) rfl (fun ls hl => ?_)
                      obtain ⟨z60, ez60⟩ : ∃ y : Int32, y = y8 + 1 := ⟨_, rfl⟩
                      have hz60 : z60.toInt = y8.toInt + 1 := i_add ez60 rfl (by decide) (by (first | exact om_c7103e519a6e klp11_0.1 r13.2 r14 f17 | omega))
                      refine lv_iinc (v := z60) (lv' := [(9, .int z60), (7, .int z59), (11, .int 1), (10, .ref (ad (72 + (24 * b + (Int32.toNatClampNeg y8))))), (8, .int y9), (6, .int (V 59 (8 * (24 * b + (Int32.toNatClampNeg p0)) + (Int32.toNatClampNeg p1)))), (5, .int (V 58 (8 * (24 * b + (Int32.toNatClampNeg p0)) + (Int32.toNatClampNeg p1)))), (4, .int (V 60 (8 * (24 * b + (Int32.toNatClampNeg p0)) + (Int32.toNatClampNeg p1)))), (3, .ref (ad (72 + (24 * b + (Int32.toNatClampNeg p0))))), (0, .ref (ad (38 + b))), (1, .int p0), (2, .int p1)]) hx hb dX0_candidates_165 hl (k := 3) rfl (by rw [ez60]; rfl) (by decide) rfl (fun ls hl => ?_)
                      refine lv_goto (tgt := 40) hx hb dX0_candidates_168 (by decide) ?_
                      have r61 : Int32.toInt 1 = 1 := by decide
                      exact ihlp11 z60 y9 z59 H locs ls (by (first | exact om_ebd92ed44179 klp11_0.1 r13.2 r14 f17 hz60 | omega)) (by (first | exact om_8a0dcf576dcd hz59.1 hz59.2 | omega)) (by (first | exact om_9592d9319ffa hn hz60 | omega)) hP hD hS (lv_sub hl [0, 4, 1, 5, 6, 7, 8, 9, 10, 11] rfl)
                · skip
                  have f62 : y9.toInt < ((V 53 (24 * b + (Int32.toNatClampNeg y8)))).toInt := b_nle rfl rfl c44
                  refine lv_aload hx hb dX0_candidates_130 (lv_at hl 1 rfl) ?_
                  refine va_getN (D := D) (ci := 3) (v := .int (V 53 (24 * b + (Int32.toNatClampNeg y8)))) (fs := (xfComp ad V (24 * b + (Int32.toNatClampNeg y8)))) (C := RX3) (T := TX3) (N := 13) hx hb hg inX3 hown hK hP (72 + (24 * b + (Int32.toNatClampNeg y8))) (xgComp il19) rfl 8 (by decide) (hnw.use 529 n529 rfl) (fun _ h9 => h9) rfl dX0_candidates_132 ?_
                  refine lv_istore (lv' := [(8, .int (V 53 (24 * b + (Int32.toNatClampNeg y8)))), (11, .int 1), (10, .ref (ad (72 + (24 * b + (Int32.toNatClampNeg y8))))), (9, .int y8), (7, .int y10), (6, .int (V 59 (8 * (24 * b + (Int32.toNatClampNeg p0)) + (Int32.toNatClampNeg p1)))), (5, .int (V 58 (8 * (24 * b + (Int32.toNatClampNeg p0)) + (Int32.toNatClampNeg p1)))), (4, .int (V 60 (8 * (24 * b + (Int32.toNatClampNeg p0)) + (Int32.toNatClampNeg p1)))), (3, .ref (ad (72 + (24 * b + (Int32.toNatClampNeg p0))))), (0, .ref (ad (38 + b))), (1, .int p0), (2, .int p1)]) hx hb dX0_candidates_135 hl (by decide) rfl (fun ls hl => ?_)
                  refine lv_iconst (v := 0) hx hb dX0_candidates_137 (by decide) ?_
                  refine lv_istore (lv' := [(7, .int 0), (8, .int (V 53 (24 * b + (Int32.toNatClampNeg y8)))), (11, .int 1), (10, .ref (ad (72 + (24 * b + (Int32.toNatClampNeg y8))))), (9, .int y8), (6, .int (V 59 (8 * (24 * b + (Int32.toNatClampNeg p0)) + (Int32.toNatClampNeg p1)))), (5, .int (V 58 (8 * (24 * b + (Int32.toNatClampNeg p0)) + (Int32.toNatClampNeg p1)))), (4, .int (V 60 (8 * (24 * b + (Int32.toNatClampNeg p0)) + (Int32.toNatClampNeg p1)))), (3, .ref (ad (72 + (24 * b + (Int32.toNatClampNeg p0))))), (0, .ref (ad (38 + b))), (1, .int p0), (2, .int p1)]) hx hb dX0_candidates_138 hl (by decide) rfl (fun ls hl => ?_)
                  refine lv_iload hx hb dX0_candidates_140 (lv_at hl 7 rfl) ?_
                  refine lv_iconst (v := 2) hx hb dX0_candidates_142 (by decide) ?_
                  refine lv_icmp_eq (tgt := 156) hx hb dX0_candidates_143 (by decide) (fun c63 => ?_) (fun c63 => ?_)
                  · skip
                    have f64 : ((V 60 (8 * (24 * b + (Int32.toNatClampNeg p0)) + (Int32.toNatClampNeg p1)))).toInt = 2 := b_eq rfl (by decide) c63
                    refine lv_iload hx hb dX0_candidates_156 (lv_at hl 0 rfl) ?_
                    refine lv_iconst (v := 1) hx hb dX0_candidates_158 (by decide) ?_
                    refine lv_iload hx hb dX0_candidates_159 (lv_at hl 4 rfl) ?_
                    refine lv_ishl hx hb dX0_candidates_161 ?_
                    refine lv_topi (fun z65 ez65 => ?_)
                    have hz65 : 0 ≤ z65.toInt ∧ z65.toInt < 16777216 := shl1 ez65 (by omega)
                    refine lv_ior hx hb dX0_candidates_162 ?_
                    refine lv_topi (fun z66 ez66 => ?_)
                    have hz66 : 0 ≤ z66.toInt ∧ z66.toInt < 16777216 := or24 ez66 (by decide) (by omega)
                    refine lv_istore (lv' := [(7, .int z66), (8, .int (V 53 (24 * b + (Int32.toNatClampNeg y8)))), (11, .int 1), (10, .ref (ad (72 + (24 * b + (Int32.toNatClampNeg y8))))), (9, .int y8), (6, .int (V 59 (8 * (24 * b + (Int32.toNatClampNeg p0)) + (Int32.toNatClampNeg p1)))), (5, .int (V 58 (8 * (24 * b + (Int32.toNatClampNeg p0)) + (Int32.toNatClampNeg p1)))), (4, .int (V 60 (8 * (24 * b + (Int32.toNatClampNeg p0)) + (Int32.toNatClampNeg p1)))), (3, .ref (ad (72 + (24 * b + (Int32.toNatClampNeg p0))))), (0, .ref (ad (38 + b))), (1, .int p0), (2, .int p1)]) hx hb dX0_candidates_163 hl (by decide) rfl (fun ls hl => ?_)
                    obtain ⟨z67, ez67⟩ : ∃ y : Int32, y = y8 + 1 := ⟨_, rfl⟩
                    have hz67 : z67.toInt = y8.toInt + 1 := i_add ez67 rfl (by decide) (by omega)
                    refine lv_iinc (v := z67) (lv' := [(9, .int z67), (7, .int z66), (8, .int (V 53 (24 * b + (Int32.toNatClampNeg y8)))), (11, .int 1), (10, .ref (ad (72 + (24 * b + (Int32.toNatClampNeg y8))))), (6, .int (V 59 (8 * (24 * b + (Int32.toNatClampNeg p0)) + (Int32.toNatClampNeg p1)))), (5, .int (V 58 (8 * (24 * b + (Int32.toNatClampNeg p0)) + (Int32.toNatClampNeg p1)))), (4, .int (V 60 (8 * (24 * b + (Int32.toNatClampNeg p0)) + (Int32.toNatClampNeg p1)))), (3, .ref (ad (72 + (24 * b + (Int32.toNatClampNeg p0))))), (0, .ref (ad (38 + b))), (1, .int p0), (2, .int p1)]) hx hb dX0_candidates_165 hl (k := 4) rfl (by rw [ez67]; rfl) (by decide) rfl (fun ls hl => ?_)
                    refine lv_goto (tgt := 40) hx hb dX0_candidates_168 (by decide) ?_
                    have r68 : Int32.toInt 1 = 1 := by decide
                    exact ihlp11 z67 (V 53 (24 * b + (Int32.toNatClampNeg y8))) z66 H locs ls (by omega) (by omega) (by omega) hP hD hS (lv_sub hl [0, 2, 1, 5, 6, 7, 8, 9, 10, 11] rfl)
                  · skip
                    have f69 : ((V 60 (8 * (24 * b + (Int32.toNatClampNeg p0)) + (Int32.toNatClampNeg p1)))).toInt ≠ 2 := b_neq rfl (by decide) c63
                    refine lv_aload hx hb dX0_candidates_146 (lv_at hl 3 rfl) ?_
                    refine va_getN (D := D) (ci := 3) (v := .int (V 53 (24 * b + (Int32.toNatClampNeg y8)))) (fs := (xfComp ad V (24 * b + (Int32.toNatClampNeg y8)))) (C := RX3) (T := TX3) (N := 13) hx hb hg inX3 hown hK hP (72 + (24 * b + (Int32.toNatClampNeg y8))) (xgComp il19) rfl 8 (by decide) (hnw.use 529 n529 rfl) (fun _ h9 => h9) rfl dX0_candidates_148 ?_
                    refine lv_iload hx hb dX0_candidates_151 (lv_at hl 1 rfl) ?_
                    refine lv_icmp_ne (tgt := 165) hx hb dX0_candidates_153 (by decide) (fun c70 => ?_) (fun c70 => ?_)
                    · skip
                      have f71 : ((V 53 (24 * b + (Int32.toNatClampNeg y8)))).toInt ≠ ((V 53 (24 * b + (Int32.toNatClampNeg y8)))).toInt := b_neq rfl rfl c70
                      obtain ⟨z72, ez72⟩ : ∃ y : Int32, y = y8 + 1 := ⟨_, rfl⟩
                      have hz72 : z72.toInt = y8.toInt + 1 := i_add ez72 rfl (by decide) (by (first | exact om_c7103e519a6e klp11_0.1 r13.2 r14 f17 | omega))
                      refine lv_iinc (v := z72) (lv' := [(9, .int z72), (7, .int 0), (8, .int (V 53 (24 * b + (Int32.toNatClampNeg y8)))), (11, .int 1), (10, .ref (ad (72 + (24 * b + (Int32.toNatClampNeg y8))))), (6, .int (V 59 (8 * (24 * b + (Int32.toNatClampNeg p0)) + (Int32.toNatClampNeg p1)))), (5, .int (V 58 (8 * (24 * b + (Int32.toNatClampNeg p0)) + (Int32.toNatClampNeg p1)))), (4, .int (V 60 (8 * (24 * b + (Int32.toNatClampNeg p0)) + (Int32.toNatClampNeg p1)))), (3, .ref (ad (72 + (24 * b + (Int32.toNatClampNeg p0))))), (0, .ref (ad (38 + b))), (1, .int p0), (2, .int p1)]) hx hb dX0_candidates_165 hl (k := 4) rfl (by rw [ez72]; rfl) (by decide) rfl (fun ls hl => ?_)
                      refine lv_goto (tgt := 40) hx hb dX0_candidates_168 (by decide) ?_
                      have r73 : Int32.toInt 0 = 0 := by decide
                      have r74 : Int32.toInt 1 = 1 := by decide
                      exact ihlp11 z72 (V 53 (24 * b + (Int32.toNatClampNeg y8))) 0 H locs ls (by (first | exact om_ebd92ed44179 klp11_0.1 r13.2 r14 f17 hz72 | omega)) (by decide) (by (first | exact om_9592d9319ffa hn hz72 | omega)) hP hD hS (lv_sub hl [0, 2, 1, 5, 6, 7, 8, 9, 10, 11] rfl)
                    · skip
                      have f75 : ((V 53 (24 * b + (Int32.toNatClampNeg y8)))).toInt = ((V 53 (24 * b + (Int32.toNatClampNeg y8)))).toInt := b_eq rfl rfl c70
                      refine lv_iload hx hb dX0_candidates_156 (lv_at hl 0 rfl) ?_
                      refine lv_iconst (v := 1) hx hb dX0_candidates_158 (by decide) ?_
                      refine lv_iload hx hb dX0_candidates_159 (lv_at hl 4 rfl) ?_
                      refine lv_ishl hx hb dX0_candidates_161 ?_
                      refine lv_topi (fun z76 ez76 => ?_)
                      have hz76 : 0 ≤ z76.toInt ∧ z76.toInt < 16777216 := shl1 ez76 (by omega)
                      refine lv_ior hx hb dX0_candidates_162 ?_
                      refine lv_topi (fun z77 ez77 => ?_)
                      have hz77 : 0 ≤ z77.toInt ∧ z77.toInt < 16777216 := or24 ez77 (by decide) (by omega)
                      refine lv_istore (lv' := [(7, .int z77), (8, .int (V 53 (24 * b + (Int32.toNatClampNeg y8)))), (11, .int 1), (10, .ref (ad (72 + (24 * b + (Int32.toNatClampNeg y8))))), (9, .int y8), (6, .int (V 59 (8 * (24 * b + (Int32.toNatClampNeg p0)) + (Int32.toNatClampNeg p1)))), (5, .int (V 58 (8 * (24 * b + (Int32.toNatClampNeg p0)) + (Int32.toNatClampNeg p1)))), (4, .int (V 60 (8 * (24 * b + (Int32.toNatClampNeg p0)) + (Int32.toNatClampNeg p1)))), (3, .ref (ad (72 + (24 * b + (Int32.toNatClampNeg p0))))), (0, .ref (ad (38 + b))), (1, .int p0), (2, .int p1)]) hx hb dX0_candidates_163 hl (by decide) rfl (fun ls hl => ?_)
                      obtain ⟨z78, ez78⟩ : ∃ y : Int32, y = y8 + 1 := ⟨_, rfl⟩
                      have hz78 : z78.toInt = y8.toInt + 1 := i_add ez78 rfl (by decide) (by (first | exact om_c7103e519a6e klp11_0.1 r13.2 r14 f17 | omega))
                      refine lv_iinc (v := z78) (lv' := [(9, .int z78), (7, .int z77), (8, .int (V 53 (24 * b + (Int32.toNatClampNeg y8)))), (11, .int 1), (10, .ref (ad (72 + (24 * b + (Int32.toNatClampNeg y8))))), (6, .int (V 59 (8 * (24 * b + (Int32.toNatClampNeg p0)) + (Int32.toNatClampNeg p1)))), (5, .int (V 58 (8 * (24 * b + (Int32.toNatClampNeg p0)) + (Int32.toNatClampNeg p1)))), (4, .int (V 60 (8 * (24 * b + (Int32.toNatClampNeg p0)) + (Int32.toNatClampNeg p1)))), (3, .ref (ad (72 + (24 * b + (Int32.toNatClampNeg p0))))), (0, .ref (ad (38 + b))), (1, .int p0), (2, .int p1)]) hx hb dX0_candidates_165 hl (k := 4) rfl (by rw [ez78]; rfl) (by decide) rfl (fun ls hl => ?_)
                      refine lv_goto (tgt := 40) hx hb dX0_candidates_168 (by decide) ?_
                      have r79 : Int32.toInt 1 = 1 := by decide
                      exact ihlp11 z78 (V 53 (24 * b + (Int32.toNatClampNeg y8))) z77 H locs ls (by (first | exact om_ebd92ed44179 klp11_0.1 r13.2 r14 f17 hz78 | omega)) (by (first | exact om_8a0dcf576dcd hz77.1 hz77.2 | omega)) (by (first | exact om_9592d9319ffa hn hz78 | omega)) hP hD hS (lv_sub hl [0, 2, 1, 5, 6, 7, 8, 9, 10, 11] rfl)
            · skip
              have f80 : z29.toInt = 0 := b_eq rfl (by decide) c32
              refine lv_goto (tgt := 165) hx hb dX0_candidates_111 (by decide) ?_
              obtain ⟨z81, ez81⟩ : ∃ y : Int32, y = y8 + 1 := ⟨_, rfl⟩
              have hz81 : z81.toInt = y8.toInt + 1 := i_add ez81 rfl (by decide) (by (first | exact om_c7103e519a6e klp11_0.1 r13.2 r14 f17 | omega))
              refine lv_iinc (v := z81) (lv' := [(9, .int z81), (11, .int 1), (10, .ref (ad (72 + (24 * b + (Int32.toNatClampNeg y8))))), (8, .int y9), (7, .int y10), (6, .int (V 59 (8 * (24 * b + (Int32.toNatClampNeg p0)) + (Int32.toNatClampNeg p1)))), (5, .int (V 58 (8 * (24 * b + (Int32.toNatClampNeg p0)) + (Int32.toNatClampNeg p1)))), (4, .int (V 60 (8 * (24 * b + (Int32.toNatClampNeg p0)) + (Int32.toNatClampNeg p1)))), (3, .ref (ad (72 + (24 * b + (Int32.toNatClampNeg p0))))), (0, .ref (ad (38 + b))), (1, .int p0), (2, .int p1)]) hx hb dX0_candidates_165 hl (k := 2) rfl (by rw [ez81]; rfl) (by decide) rfl (fun ls hl => ?_)
              refine lv_goto (tgt := 40) hx hb dX0_candidates_168 (by decide) ?_
              have r82 : Int32.toInt 1 = 1 := by decide
              exact ihlp11 z81 y9 y10 H locs ls (by (first | exact om_ebd92ed44179 klp11_0.1 r13.2 r14 f17 hz81 | omega)) (by (first | exact om_c51a6401fccc klp11_1.1 klp11_1.2 | omega)) (by (first | exact om_9592d9319ffa hn hz81 | omega)) hP hD hS (lv_sub hl [0, 3, 4, 5, 6, 7, 8, 9, 10, 11] rfl)
        · skip
          have f83 : ((V 59 (8 * (24 * b + (Int32.toNatClampNeg p0)) + (Int32.toNatClampNeg p1)))).toInt ≠ (-1) := b_neq rfl (by decide) c20
          refine lv_aload hx hb dX0_candidates_67 (lv_at hl 0 rfl) ?_
          refine va_getN (D := D) (ci := 3) (v := .int (V 52 (24 * b + (Int32.toNatClampNeg y8)))) (fs := (xfComp ad V (24 * b + (Int32.toNatClampNeg y8)))) (C := RX3) (T := TX3) (N := 13) hx hb hg inX3 hown hK hP (72 + (24 * b + (Int32.toNatClampNeg y8))) (xgComp il19) rfl 7 (by decide) (hnw.use 525 n525 rfl) (fun _ h9 => h9) rfl dX0_candidates_69 ?_
          refine lv_iload hx hb dX0_candidates_72 (lv_at hl 4 rfl) ?_
          refine lv_icmp_ne (tgt := 81) hx hb dX0_candidates_74 (by decide) (fun c84 => ?_) (fun c84 => ?_)
          · skip
            have f85 : ((V 52 (24 * b + (Int32.toNatClampNeg y8)))).toInt ≠ ((V 59 (8 * (24 * b + (Int32.toNatClampNeg p0)) + (Int32.toNatClampNeg p1)))).toInt := b_neq rfl rfl c84
            refine lv_iconst (v := 0) hx hb dX0_candidates_81 (by decide) ?_
            refine lv_istore (lv' := [(11, .int 0), (10, .ref (ad (72 + (24 * b + (Int32.toNatClampNeg y8))))), (9, .int y8), (8, .int y9), (7, .int y10), (6, .int (V 59 (8 * (24 * b + (Int32.toNatClampNeg p0)) + (Int32.toNatClampNeg p1)))), (5, .int (V 58 (8 * (24 * b + (Int32.toNatClampNeg p0)) + (Int32.toNatClampNeg p1)))), (4, .int (V 60 (8 * (24 * b + (Int32.toNatClampNeg p0)) + (Int32.toNatClampNeg p1)))), (3, .ref (ad (72 + (24 * b + (Int32.toNatClampNeg p0))))), (0, .ref (ad (38 + b))), (1, .int p0), (2, .int p1)]) hx hb dX0_candidates_82 hl (by decide) rfl (fun ls hl => ?_)
            refine lv_aload hx hb dX0_candidates_84 (lv_at hl 1 rfl) ?_
            refine va_getN (D := D) (ci := 3) (v := .int (V 50 (24 * b + (Int32.toNatClampNeg y8)))) (fs := (xfComp ad V (24 * b + (Int32.toNatClampNeg y8)))) (C := RX3) (T := TX3) (N := 13) hx hb hg inX3 hown hK hP (72 + (24 * b + (Int32.toNatClampNeg y8))) (xgComp il19) rfl 5 (by decide) (hnw.use 517 n517 rfl) (fun _ h9 => h9) rfl dX0_candidates_86 ?_
            refine lv_iload hx hb dX0_candidates_89 (lv_at hl 6 rfl) ?_
            refine lv_ishr hx hb dX0_candidates_91 ?_
            refine lv_topi (fun z86 ez86 => ?_)
            refine lv_iconst (v := 1) hx hb dX0_candidates_92 (by decide) ?_
            refine lv_iand hx hb dX0_candidates_93 ?_
            refine lv_topi (fun z87 ez87 => ?_)
            have hz87 : 0 ≤ z87.toInt ∧ z87.toInt ≤ 1 := and_m ez87 (by decide)
            refine lv_if_eq (tgt := 165) hx hb dX0_candidates_94 (by decide) (fun c88 => ?_) (fun c88 => ?_)
            · skip
              have f89 : z87.toInt = 0 := b_eq rfl (by decide) c88
              obtain ⟨z90, ez90⟩ : ∃ y : Int32, y = y8 + 1 := ⟨_, rfl⟩
              have hz90 : z90.toInt = y8.toInt + 1 := i_add ez90 rfl (by decide) (by (first | exact om_c7103e519a6e klp11_0.1 r13.2 r14 f17 | omega))
              refine lv_iinc (v := z90) (lv' := [(9, .int z90), (11, .int 0), (10, .ref (ad (72 + (24 * b + (Int32.toNatClampNeg y8))))), (8, .int y9), (7, .int y10), (6, .int (V 59 (8 * (24 * b + (Int32.toNatClampNeg p0)) + (Int32.toNatClampNeg p1)))), (5, .int (V 58 (8 * (24 * b + (Int32.toNatClampNeg p0)) + (Int32.toNatClampNeg p1)))), (4, .int (V 60 (8 * (24 * b + (Int32.toNatClampNeg p0)) + (Int32.toNatClampNeg p1)))), (3, .ref (ad (72 + (24 * b + (Int32.toNatClampNeg p0))))), (0, .ref (ad (38 + b))), (1, .int p0), (2, .int p1)]) hx hb dX0_candidates_165 hl (k := 2) rfl (by rw [ez90]; rfl) (by decide) rfl (fun ls hl => ?_)
              refine lv_goto (tgt := 40) hx hb dX0_candidates_168 (by decide) ?_
              have r91 : Int32.toInt 0 = 0 := by decide
              exact ihlp11 z90 y9 y10 H locs ls (by (first | exact om_ebd92ed44179 klp11_0.1 r13.2 r14 f17 hz90 | omega)) (by (first | exact om_c51a6401fccc klp11_1.1 klp11_1.2 | omega)) (by (first | exact om_9592d9319ffa hn hz90 | omega)) hP hD hS (lv_sub hl [0, 3, 4, 5, 6, 7, 8, 9, 10, 11] rfl)
            · skip
              have f92 : z87.toInt ≠ 0 := b_neq rfl (by decide) c88
              refine lv_iload hx hb dX0_candidates_97 (lv_at hl 0 rfl) ?_
              refine lv_if_eq (tgt := 165) hx hb dX0_candidates_99 (by decide) (fun _ => ?_) (fun q => absurd (by decide) q)
              obtain ⟨z93, ez93⟩ : ∃ y : Int32, y = y8 + 1 := ⟨_, rfl⟩
              have hz93 : z93.toInt = y8.toInt + 1 := i_add ez93 rfl (by decide) (by (first | exact om_c7103e519a6e klp11_0.1 r13.2 r14 f17 | omega))
              refine lv_iinc (v := z93) (lv' := [(9, .int z93), (11, .int 0), (10, .ref (ad (72 + (24 * b + (Int32.toNatClampNeg y8))))), (8, .int y9), (7, .int y10), (6, .int (V 59 (8 * (24 * b + (Int32.toNatClampNeg p0)) + (Int32.toNatClampNeg p1)))), (5, .int (V 58 (8 * (24 * b + (Int32.toNatClampNeg p0)) + (Int32.toNatClampNeg p1)))), (4, .int (V 60 (8 * (24 * b + (Int32.toNatClampNeg p0)) + (Int32.toNatClampNeg p1)))), (3, .ref (ad (72 + (24 * b + (Int32.toNatClampNeg p0))))), (0, .ref (ad (38 + b))), (1, .int p0), (2, .int p1)]) hx hb dX0_candidates_165 hl (k := 2) rfl (by rw [ez93]; rfl) (by decide) rfl (fun ls hl => ?_)
              refine lv_goto (tgt := 40) hx hb dX0_candidates_168 (by decide) ?_
              have r94 : Int32.toInt 0 = 0 := by decide
              exact ihlp11 z93 y9 y10 H locs ls (by (first | exact om_ebd92ed44179 klp11_0.1 r13.2 r14 f17 hz93 | omega)) (by (first | exact om_c51a6401fccc klp11_1.1 klp11_1.2 | omega)) (by (first | exact om_9592d9319ffa hn hz93 | omega)) hP hD hS (lv_sub hl [0, 3, 4, 5, 6, 7, 8, 9, 10, 11] rfl)
          · skip
            have f95 : ((V 52 (24 * b + (Int32.toNatClampNeg y8)))).toInt = ((V 59 (8 * (24 * b + (Int32.toNatClampNeg p0)) + (Int32.toNatClampNeg p1)))).toInt := b_eq rfl rfl c84
            refine lv_iconst (v := 1) hx hb dX0_candidates_77 (by decide) ?_
            refine lv_goto (tgt := 82) hx hb dX0_candidates_78 (by decide) ?_
            refine lv_istore (lv' := [(11, .int 1), (10, .ref (ad (72 + (24 * b + (Int32.toNatClampNeg y8))))), (9, .int y8), (8, .int y9), (7, .int y10), (6, .int (V 59 (8 * (24 * b + (Int32.toNatClampNeg p0)) + (Int32.toNatClampNeg p1)))), (5, .int (V 58 (8 * (24 * b + (Int32.toNatClampNeg p0)) + (Int32.toNatClampNeg p1)))), (4, .int (V 60 (8 * (24 * b + (Int32.toNatClampNeg p0)) + (Int32.toNatClampNeg p1)))), (3, .ref (ad (72 + (24 * b + (Int32.toNatClampNeg p0))))), (0, .ref (ad (38 + b))), (1, .int p0), (2, .int p1)]) hx hb dX0_candidates_82 hl (by decide) rfl (fun ls hl => ?_)
            refine lv_aload hx hb dX0_candidates_84 (lv_at hl 1 rfl) ?_
            refine va_getN (D := D) (ci := 3) (v := .int (V 50 (24 * b + (Int32.toNatClampNeg y8)))) (fs := (xfComp ad V (24 * b + (Int32.toNatClampNeg y8)))) (C := RX3) (T := TX3) (N := 13) hx hb hg inX3 hown hK hP (72 + (24 * b + (Int32.toNatClampNeg y8))) (xgComp il19) rfl 5 (by decide) (hnw.use 517 n517 rfl) (fun _ h9 => h9) rfl dX0_candidates_86 ?_
            refine lv_iload hx hb dX0_candidates_89 (lv_at hl 6 rfl) ?_
            refine lv_ishr hx hb dX0_candidates_91 ?_
            refine lv_topi (fun z96 ez96 => ?_)
            refine lv_iconst (v := 1) hx hb dX0_candidates_92 (by decide) ?_
            refine lv_iand hx hb dX0_candidates_93 ?_
            refine lv_topi (fun z97 ez97 => ?_)
            have hz97 : 0 ≤ z97.toInt ∧ z97.toInt ≤ 1 := and_m ez97 (by decide)
            refine lv_if_eq (tgt := 165) hx hb dX0_candidates_94 (by decide) (fun c98 => ?_) (fun c98 => ?_)
            · skip
              have f99 : z97.toInt = 0 := b_eq rfl (by decide) c98
              obtain ⟨z100, ez100⟩ : ∃ y : Int32, y = y8 + 1 := ⟨_, rfl⟩
              have hz100 : z100.toInt = y8.toInt + 1 := i_add ez100 rfl (by decide) (by (first | exact om_c7103e519a6e klp11_0.1 r13.2 r14 f17 | omega))
              refine lv_iinc (v := z100) (lv' := [(9, .int z100), (11, .int 1), (10, .ref (ad (72 + (24 * b + (Int32.toNatClampNeg y8))))), (8, .int y9), (7, .int y10), (6, .int (V 59 (8 * (24 * b + (Int32.toNatClampNeg p0)) + (Int32.toNatClampNeg p1)))), (5, .int (V 58 (8 * (24 * b + (Int32.toNatClampNeg p0)) + (Int32.toNatClampNeg p1)))), (4, .int (V 60 (8 * (24 * b + (Int32.toNatClampNeg p0)) + (Int32.toNatClampNeg p1)))), (3, .ref (ad (72 + (24 * b + (Int32.toNatClampNeg p0))))), (0, .ref (ad (38 + b))), (1, .int p0), (2, .int p1)]) hx hb dX0_candidates_165 hl (k := 2) rfl (by rw [ez100]; rfl) (by decide) rfl (fun ls hl => ?_)
              refine lv_goto (tgt := 40) hx hb dX0_candidates_168 (by decide) ?_
              have r101 : Int32.toInt 1 = 1 := by decide
              exact ihlp11 z100 y9 y10 H locs ls (by (first | exact om_ebd92ed44179 klp11_0.1 r13.2 r14 f17 hz100 | omega)) (by (first | exact om_c51a6401fccc klp11_1.1 klp11_1.2 | omega)) (by (first | exact om_9592d9319ffa hn hz100 | omega)) hP hD hS (lv_sub hl [0, 3, 4, 5, 6, 7, 8, 9, 10, 11] rfl)
            · skip
              have f102 : z97.toInt ≠ 0 := b_neq rfl (by decide) c98
              refine lv_iload hx hb dX0_candidates_97 (lv_at hl 0 rfl) ?_
              refine lv_if_eq (tgt := 165) hx hb dX0_candidates_99 (by decide) (fun q => absurd q (by decide)) (fun _ => ?_)
              refine lv_aload_n hx hb dX0_candidates_102 rfl (lv_at hl 9 rfl) ?_
              refine lv_iload hx hb dX0_candidates_103 (lv_at hl 2 rfl) ?_
              refine gA_int (gA_runV (As := [.int y8]) (rest := []) (ci := 0) (q0 := (38 + b)) hx hb hml hown hg hP hD hK hS hA hnw hgk (x_isThere l D ks H.size ad kk V L Z y8 (b) hMV (by (first | exact om_5ea855d61ca3 klp11_0.1 r13.2 r14 f17 | omega)) (show b < 2 from by (first | exact om_f940a4667dd6 hb2 | omega))) w1085 w1070 w1071 w167 w1072 rfl (xgBook hb2) hdV_yX0_isThere ⟨Nat.le_of_ble_eq_true rfl, Nat.le_of_ble_eq_true rfl⟩ rfl hl.1 rfl (Nat.le_of_ble_eq_true rfl) dX0_candidates_105 ⟨Nat.le_of_ble_eq_true rfl, Nat.le_of_ble_eq_true rfl⟩) hP hD hK hS hA (fun z103 u104 H locs w105 hP hD hK hS => ?_)
              have rgz103 := w105
              have rgz103 : 0 ≤ z103.toInt ∧ z103.toInt ≤ 1 := rgz103
              refine lv_if_ne (tgt := 114) hx hb dX0_candidates_108 (by decide) (fun c106 => ?_) (fun c106 => ?_)
              · skip
                have f107 : z103.toInt ≠ 0 := b_neq rfl (by decide) c106
                refine lv_iload hx hb dX0_candidates_114 (lv_at hl 7 rfl) ?_
                refine lv_iconst (v := 2) hx hb dX0_candidates_116 (by decide) ?_
                refine lv_icmp_eq (tgt := 140) hx hb dX0_candidates_117 (by decide) (fun c108 => ?_) (fun c108 => ?_)
                · skip
                  have f109 : ((V 60 (8 * (24 * b + (Int32.toNatClampNeg p0)) + (Int32.toNatClampNeg p1)))).toInt = 2 := b_eq rfl (by decide) c108
                  refine lv_iload hx hb dX0_candidates_140 (lv_at hl 7 rfl) ?_
                  refine lv_iconst (v := 2) hx hb dX0_candidates_142 (by decide) ?_
                  refine lv_icmp_eq (tgt := 156) hx hb dX0_candidates_143 (by decide) (fun c110 => ?_) (fun c110 => ?_)
                  · skip
                    have f111 : ((V 60 (8 * (24 * b + (Int32.toNatClampNeg p0)) + (Int32.toNatClampNeg p1)))).toInt = 2 := b_eq rfl (by decide) c110
                    refine lv_iload hx hb dX0_candidates_156 (lv_at hl 4 rfl) ?_
                    refine lv_iconst (v := 1) hx hb dX0_candidates_158 (by decide) ?_
                    refine lv_iload hx hb dX0_candidates_159 (lv_at hl 2 rfl) ?_
                    refine lv_ishl hx hb dX0_candidates_161 ?_
                    refine lv_topi (fun z112 ez112 => ?_)
                    have hz112 : 0 ≤ z112.toInt ∧ z112.toInt < 16777216 := shl1 ez112 (by omega)
                    refine lv_ior hx hb dX0_candidates_162 ?_
                    refine lv_topi (fun z113 ez113 => ?_)
                    have hz113 : 0 ≤ z113.toInt ∧ z113.toInt < 16777216 := or24 ez113 (by omega) (by omega)
                    refine lv_istore (lv' := [(7, .int z113), (11, .int 1), (10, .ref (ad (72 + (24 * b + (Int32.toNatClampNeg y8))))), (9, .int y8), (8, .int y9), (6, .int (V 59 (8 * (24 * b + (Int32.toNatClampNeg p0)) + (Int32.toNatClampNeg p1)))), (5, .int (V 58 (8 * (24 * b + (Int32.toNatClampNeg p0)) + (Int32.toNatClampNeg p1)))), (4, .int (V 60 (8 * (24 * b + (Int32.toNatClampNeg p0)) + (Int32.toNatClampNeg p1)))), (3, .ref (ad (72 + (24 * b + (Int32.toNatClampNeg p0))))), (0, .ref (ad (38 + b))), (1, .int p0), (2, .int p1)]) hx hb dX0_candidates_163 hl (by decide) rfl (fun ls hl => ?_)
                    obtain ⟨z114, ez114⟩ : ∃ y : Int32, y = y8 + 1 := ⟨_, rfl⟩
                    have hz114 : z114.toInt = y8.toInt + 1 := i_add ez114 rfl (by decide) (by (first | exact om_c7103e519a6e klp11_0.1 r13.2 r14 f17 | omega))
                    refine lv_iinc (v := z114) (lv' := [(9, .int z114), (7, .int z113), (11, .int 1), (10, .ref (ad (72 + (24 * b + (Int32.toNatClampNeg y8))))), (8, .int y9), (6, .int (V 59 (8 * (24 * b + (Int32.toNatClampNeg p0)) + (Int32.toNatClampNeg p1)))), (5, .int (V 58 (8 * (24 * b + (Int32.toNatClampNeg p0)) + (Int32.toNatClampNeg p1)))), (4, .int (V 60 (8 * (24 * b + (Int32.toNatClampNeg p0)) + (Int32.toNatClampNeg p1)))), (3, .ref (ad (72 + (24 * b + (Int32.toNatClampNeg p0))))), (0, .ref (ad (38 + b))), (1, .int p0), (2, .int p1)]) hx hb dX0_candidates_165 hl (k := 3) rfl (by rw [ez114]; rfl) (by decide) rfl (fun ls hl => ?_)
                    refine lv_goto (tgt := 40) hx hb dX0_candidates_168 (by decide) ?_
                    have r115 : Int32.toInt 1 = 1 := by decide
                    exact ihlp11 z114 y9 z113 H locs ls (by (first | exact om_ebd92ed44179 klp11_0.1 r13.2 r14 f17 hz114 | omega)) (by (first | exact om_8a0dcf576dcd hz113.1 hz113.2 | omega)) (by (first | exact om_9592d9319ffa hn hz114 | omega)) hP hD hS (lv_sub hl [0, 4, 1, 5, 6, 7, 8, 9, 10, 11] rfl)
                  · skip
                    have f116 : ((V 60 (8 * (24 * b + (Int32.toNatClampNeg p0)) + (Int32.toNatClampNeg p1)))).toInt ≠ 2 := b_neq rfl (by decide) c110
                    exfalso; (first | exact om_da4eef675bfb f109 f116 | omega)
                · skip
                  have f117 : ((V 60 (8 * (24 * b + (Int32.toNatClampNeg p0)) + (Int32.toNatClampNeg p1)))).toInt ≠ 2 := b_neq rfl (by decide) c108
                  refine lv_aload hx hb dX0_candidates_120 (lv_at hl 1 rfl) ?_
                  refine va_getN (D := D) (ci := 3) (v := .int (V 53 (24 * b + (Int32.toNatClampNeg y8)))) (fs := (xfComp ad V (24 * b + (Int32.toNatClampNeg y8)))) (C := RX3) (T := TX3) (N := 13) hx hb hg inX3 hown hK hP (72 + (24 * b + (Int32.toNatClampNeg y8))) (xgComp il19) rfl 8 (by decide) (hnw.use 529 n529 rfl) (fun _ h9 => h9) rfl dX0_candidates_122 ?_
                  refine lv_iload hx hb dX0_candidates_125 (lv_at hl 3 rfl) ?_
                  refine lv_icmp_le (tgt := 140) hx hb dX0_candidates_127 (by decide) (fun c118 => ?_) (fun c118 => ?_)
                  · skip
                    have f119 : ((V 53 (24 * b + (Int32.toNatClampNeg y8)))).toInt ≤ y9.toInt := b_le rfl rfl c118
                    refine lv_iload hx hb dX0_candidates_140 (lv_at hl 7 rfl) ?_
                    refine lv_iconst (v := 2) hx hb dX0_candidates_142 (by decide) ?_
                    refine lv_icmp_eq (tgt := 156) hx hb dX0_candidates_143 (by decide) (fun c120 => ?_) (fun c120 => ?_)
                    · skip
                      have f121 : ((V 60 (8 * (24 * b + (Int32.toNatClampNeg p0)) + (Int32.toNatClampNeg p1)))).toInt = 2 := b_eq rfl (by decide) c120
                      refine lv_iload hx hb dX0_candidates_156 (lv_at hl 4 rfl) ?_
                      refine lv_iconst (v := 1) hx hb dX0_candidates_158 (by decide) ?_
                      refine lv_iload hx hb dX0_candidates_159 (lv_at hl 2 rfl) ?_
                      refine lv_ishl hx hb dX0_candidates_161 ?_
                      refine lv_topi (fun z122 ez122 => ?_)
                      have hz122 : 0 ≤ z122.toInt ∧ z122.toInt < 16777216 := shl1 ez122 (by omega)
                      refine lv_ior hx hb dX0_candidates_162 ?_
                      refine lv_topi (fun z123 ez123 => ?_)
                      have hz123 : 0 ≤ z123.toInt ∧ z123.toInt < 16777216 := or24 ez123 (by omega) (by omega)
                      refine lv_istore (lv' := [(7, .int z123), (11, .int 1), (10, .ref (ad (72 + (24 * b + (Int32.toNatClampNeg y8))))), (9, .int y8), (8, .int y9), (6, .int (V 59 (8 * (24 * b + (Int32.toNatClampNeg p0)) + (Int32.toNatClampNeg p1)))), (5, .int (V 58 (8 * (24 * b + (Int32.toNatClampNeg p0)) + (Int32.toNatClampNeg p1)))), (4, .int (V 60 (8 * (24 * b + (Int32.toNatClampNeg p0)) + (Int32.toNatClampNeg p1)))), (3, .ref (ad (72 + (24 * b + (Int32.toNatClampNeg p0))))), (0, .ref (ad (38 + b))), (1, .int p0), (2, .int p1)]) hx hb dX0_candidates_163 hl (by decide) rfl (fun ls hl => ?_)
                      obtain ⟨z124, ez124⟩ : ∃ y : Int32, y = y8 + 1 := ⟨_, rfl⟩
                      have hz124 : z124.toInt = y8.toInt + 1 := i_add ez124 rfl (by decide) (by omega)
                      refine lv_iinc (v := z124) (lv' := [(9, .int z124), (7, .int z123), (11, .int 1), (10, .ref (ad (72 + (24 * b + (Int32.toNatClampNeg y8))))), (8, .int y9), (6, .int (V 59 (8 * (24 * b + (Int32.toNatClampNeg p0)) + (Int32.toNatClampNeg p1)))), (5, .int (V 58 (8 * (24 * b + (Int32.toNatClampNeg p0)) + (Int32.toNatClampNeg p1)))), (4, .int (V 60 (8 * (24 * b + (Int32.toNatClampNeg p0)) + (Int32.toNatClampNeg p1)))), (3, .ref (ad (72 + (24 * b + (Int32.toNatClampNeg p0))))), (0, .ref (ad (38 + b))), (1, .int p0), (2, .int p1)]) hx hb dX0_candidates_165 hl (k := 3) rfl (by rw [ez124]; rfl) (by decide) rfl (fun ls hl => ?_)
                      refine lv_goto (tgt := 40) hx hb dX0_candidates_168 (by decide) ?_
                      have r125 : Int32.toInt 1 = 1 := by decide
                      exact ihlp11 z124 y9 z123 H locs ls (by omega) (by omega) (by omega) hP hD hS (lv_sub hl [0, 4, 1, 5, 6, 7, 8, 9, 10, 11] rfl)
                    · skip
                      have f126 : ((V 60 (8 * (24 * b + (Int32.toNatClampNeg p0)) + (Int32.toNatClampNeg p1)))).toInt ≠ 2 := b_neq rfl (by decide) c120
                      refine lv_aload hx hb dX0_candidates_146 (lv_at hl 1 rfl) ?_
                      refine va_getN (D := D) (ci := 3) (v := .int (V 53 (24 * b + (Int32.toNatClampNeg y8)))) (fs := (xfComp ad V (24 * b + (Int32.toNatClampNeg y8)))) (C := RX3) (T := TX3) (N := 13) hx hb hg inX3 hown hK hP (72 + (24 * b + (Int32.toNatClampNeg y8))) (xgComp il19) rfl 8 (by decide) (hnw.use 529 n529 rfl) (fun _ h9 => h9) rfl dX0_candidates_148 ?_
                      refine lv_iload hx hb dX0_candidates_151 (lv_at hl 3 rfl) ?_
                      refine lv_icmp_ne (tgt := 165) hx hb dX0_candidates_153 (by decide) (fun c127 => ?_) (fun c127 => ?_)
                      · skip
                        have f128 : ((V 53 (24 * b + (Int32.toNatClampNeg y8)))).toInt ≠ y9.toInt := b_neq rfl rfl c127
                        obtain ⟨z129, ez129⟩ : ∃ y : Int32, y = y8 + 1 := ⟨_, rfl⟩
                        have hz129 : z129.toInt = y8.toInt + 1 := i_add ez129 rfl (by decide) (by (first | exact om_c7103e519a6e klp11_0.1 r13.2 r14 f17 | omega))
                        refine lv_iinc (v := z129) (lv' := [(9, .int z129), (11, .int 1), (10, .ref (ad (72 + (24 * b + (Int32.toNatClampNeg y8))))), (8, .int y9), (7, .int y10), (6, .int (V 59 (8 * (24 * b + (Int32.toNatClampNeg p0)) + (Int32.toNatClampNeg p1)))), (5, .int (V 58 (8 * (24 * b + (Int32.toNatClampNeg p0)) + (Int32.toNatClampNeg p1)))), (4, .int (V 60 (8 * (24 * b + (Int32.toNatClampNeg p0)) + (Int32.toNatClampNeg p1)))), (3, .ref (ad (72 + (24 * b + (Int32.toNatClampNeg p0))))), (0, .ref (ad (38 + b))), (1, .int p0), (2, .int p1)]) hx hb dX0_candidates_165 hl (k := 2) rfl (by rw [ez129]; rfl) (by decide) rfl (fun ls hl => ?_)
                        refine lv_goto (tgt := 40) hx hb dX0_candidates_168 (by decide) ?_
                        have r130 : Int32.toInt 1 = 1 := by decide
                        exact ihlp11 z129 y9 y10 H locs ls (by (first | exact om_ebd92ed44179 klp11_0.1 r13.2 r14 f17 hz129 | omega)) (by (first | exact om_c51a6401fccc klp11_1.1 klp11_1.2 | omega)) (by (first | exact om_9592d9319ffa hn hz129 | omega)) hP hD hS (lv_sub hl [0, 3, 4, 5, 6, 7, 8, 9, 10, 11] rfl)
                      · skip
                        have f131 : ((V 53 (24 * b + (Int32.toNatClampNeg y8)))).toInt = y9.toInt := b_eq rfl rfl c127
                        refine lv_iload hx hb dX0_candidates_156 (lv_at hl 4 rfl) ?_
                        refine lv_iconst (v := 1) hx hb dX0_candidates_158 (by decide) ?_
                        refine lv_iload hx hb dX0_candidates_159 (lv_at hl 2 rfl) ?_
                        refine lv_ishl hx hb dX0_candidates_161 ?_
                        refine lv_topi (fun z132 ez132 => ?_)
                        have hz132 : 0 ≤ z132.toInt ∧ z132.toInt < 16777216 := shl1 ez132 (by omega)
                        refine lv_ior hx hb dX0_candidates_162 ?_
                        refine lv_topi (fun z133 ez133 => ?_)
                        have hz133 : 0 ≤ z133.toInt ∧ z133.toInt < 16777216 := or24 ez133 (by omega) (by omega)
                        refine lv_istore (lv' := [(7, .int z133), (11, .int 1), (10, .ref (ad (72 + (24 * b + (Int32.toNatClampNeg y8))))), (9, .int y8), (8, .int y9), (6, .int (V 59 (8 * (24 * b + (Int32.toNatClampNeg p0)) + (Int32.toNatClampNeg p1)))), (5, .int (V 58 (8 * (24 * b + (Int32.toNatClampNeg p0)) + (Int32.toNatClampNeg p1)))), (4, .int (V 60 (8 * (24 * b + (Int32.toNatClampNeg p0)) + (Int32.toNatClampNeg p1)))), (3, .ref (ad (72 + (24 * b + (Int32.toNatClampNeg p0))))), (0, .ref (ad (38 + b))), (1, .int p0), (2, .int p1)]) hx hb dX0_candidates_163 hl (by decide) rfl (fun ls hl => ?_)
                        obtain ⟨z134, ez134⟩ : ∃ y : Int32, y = y8 + 1 := ⟨_, rfl⟩
                        have hz134 : z134.toInt = y8.toInt + 1 := i_add ez134 rfl (by decide) (by (first | exact om_c7103e519a6e klp11_0.1 r13.2 r14 f17 | omega))
                        refine lv_iinc (v := z134) (lv' := [(9, .int z134), (7, .int z133), (11, .int 1), (10, .ref (ad (72 + (24 * b + (Int32.toNatClampNeg y8))))), (8, .int y9), (6, .int (V 59 (8 * (24 * b + (Int32.toNatClampNeg p0)) + (Int32.toNatClampNeg p1)))), (5, .int (V 58 (8 * (24 * b + (Int32.toNatClampNeg p0)) + (Int32.toNatClampNeg p1)))), (4, .int (V 60 (8 * (24 * b + (Int32.toNatClampNeg p0)) + (Int32.toNatClampNeg p1)))), (3, .ref (ad (72 + (24 * b + (Int32.toNatClampNeg p0))))), (0, .ref (ad (38 + b))), (1, .int p0), (2, .int p1)]) hx hb dX0_candidates_165 hl (k := 3) rfl (by rw [ez134]; rfl) (by decide) rfl (fun ls hl => ?_)
                        refine lv_goto (tgt := 40) hx hb dX0_candidates_168 (by decide) ?_
                        have r135 : Int32.toInt 1 = 1 := by decide
                        exact ihlp11 z134 y9 z133 H locs ls (by (first | exact om_ebd92ed44179 klp11_0.1 r13.2 r14 f17 hz134 | omega)) (by (first | exact om_8a0dcf576dcd hz133.1 hz133.2 | omega)) (by (first | exact om_9592d9319ffa hn hz134 | omega)) hP hD hS (lv_sub hl [0, 4, 1, 5, 6, 7, 8, 9, 10, 11] rfl)
                  · skip
                    have f136 : y9.toInt < ((V 53 (24 * b + (Int32.toNatClampNeg y8)))).toInt := b_nle rfl rfl c118
                    refine lv_aload hx hb dX0_candidates_130 (lv_at hl 1 rfl) ?_
                    refine va_getN (D := D) (ci := 3) (v := .int (V 53 (24 * b + (Int32.toNatClampNeg y8)))) (fs := (xfComp ad V (24 * b + (Int32.toNatClampNeg y8)))) (C := RX3) (T := TX3) (N := 13) hx hb hg inX3 hown hK hP (72 + (24 * b + (Int32.toNatClampNeg y8))) (xgComp il19) rfl 8 (by decide) (hnw.use 529 n529 rfl) (fun _ h9 => h9) rfl dX0_candidates_132 ?_
                    refine lv_istore (lv' := [(8, .int (V 53 (24 * b + (Int32.toNatClampNeg y8)))), (11, .int 1), (10, .ref (ad (72 + (24 * b + (Int32.toNatClampNeg y8))))), (9, .int y8), (7, .int y10), (6, .int (V 59 (8 * (24 * b + (Int32.toNatClampNeg p0)) + (Int32.toNatClampNeg p1)))), (5, .int (V 58 (8 * (24 * b + (Int32.toNatClampNeg p0)) + (Int32.toNatClampNeg p1)))), (4, .int (V 60 (8 * (24 * b + (Int32.toNatClampNeg p0)) + (Int32.toNatClampNeg p1)))), (3, .ref (ad (72 + (24 * b + (Int32.toNatClampNeg p0))))), (0, .ref (ad (38 + b))), (1, .int p0), (2, .int p1)]) hx hb dX0_candidates_135 hl (by decide) rfl (fun ls hl => ?_)
                    refine lv_iconst (v := 0) hx hb dX0_candidates_137 (by decide) ?_
                    refine lv_istore (lv' := [(7, .int 0), (8, .int (V 53 (24 * b + (Int32.toNatClampNeg y8)))), (11, .int 1), (10, .ref (ad (72 + (24 * b + (Int32.toNatClampNeg y8))))), (9, .int y8), (6, .int (V 59 (8 * (24 * b + (Int32.toNatClampNeg p0)) + (Int32.toNatClampNeg p1)))), (5, .int (V 58 (8 * (24 * b + (Int32.toNatClampNeg p0)) + (Int32.toNatClampNeg p1)))), (4, .int (V 60 (8 * (24 * b + (Int32.toNatClampNeg p0)) + (Int32.toNatClampNeg p1)))), (3, .ref (ad (72 + (24 * b + (Int32.toNatClampNeg p0))))), (0, .ref (ad (38 + b))), (1, .int p0), (2, .int p1)]) hx hb dX0_candidates_138 hl (by decide) rfl (fun ls hl => ?_)
                    refine lv_iload hx hb dX0_candidates_140 (lv_at hl 7 rfl) ?_
                    refine lv_iconst (v := 2) hx hb dX0_candidates_142 (by decide) ?_
                    refine lv_icmp_eq (tgt := 156) hx hb dX0_candidates_143 (by decide) (fun c137 => ?_) (fun c137 => ?_)
                    · skip
                      have f138 : ((V 60 (8 * (24 * b + (Int32.toNatClampNeg p0)) + (Int32.toNatClampNeg p1)))).toInt = 2 := b_eq rfl (by decide) c137
                      refine lv_iload hx hb dX0_candidates_156 (lv_at hl 0 rfl) ?_
                      refine lv_iconst (v := 1) hx hb dX0_candidates_158 (by decide) ?_
                      refine lv_iload hx hb dX0_candidates_159 (lv_at hl 4 rfl) ?_
                      refine lv_ishl hx hb dX0_candidates_161 ?_
                      refine lv_topi (fun z139 ez139 => ?_)
                      have hz139 : 0 ≤ z139.toInt ∧ z139.toInt < 16777216 := shl1 ez139 (by omega)
                      refine lv_ior hx hb dX0_candidates_162 ?_
                      refine lv_topi (fun z140 ez140 => ?_)
                      have hz140 : 0 ≤ z140.toInt ∧ z140.toInt < 16777216 := or24 ez140 (by decide) (by omega)
                      refine lv_istore (lv' := [(7, .int z140), (8, .int (V 53 (24 * b + (Int32.toNatClampNeg y8)))), (11, .int 1), (10, .ref (ad (72 + (24 * b + (Int32.toNatClampNeg y8))))), (9, .int y8), (6, .int (V 59 (8 * (24 * b + (Int32.toNatClampNeg p0)) + (Int32.toNatClampNeg p1)))), (5, .int (V 58 (8 * (24 * b + (Int32.toNatClampNeg p0)) + (Int32.toNatClampNeg p1)))), (4, .int (V 60 (8 * (24 * b + (Int32.toNatClampNeg p0)) + (Int32.toNatClampNeg p1)))), (3, .ref (ad (72 + (24 * b + (Int32.toNatClampNeg p0))))), (0, .ref (ad (38 + b))), (1, .int p0), (2, .int p1)]) hx hb dX0_candidates_163 hl (by decide) rfl (fun ls hl => ?_)
                      obtain ⟨z141, ez141⟩ : ∃ y : Int32, y = y8 + 1 := ⟨_, rfl⟩
                      have hz141 : z141.toInt = y8.toInt + 1 := i_add ez141 rfl (by decide) (by omega)
                      refine lv_iinc (v := z141) (lv' := [(9, .int z141), (7, .int z140), (8, .int (V 53 (24 * b + (Int32.toNatClampNeg y8)))), (11, .int 1), (10, .ref (ad (72 + (24 * b + (Int32.toNatClampNeg y8))))), (6, .int (V 59 (8 * (24 * b + (Int32.toNatClampNeg p0)) + (Int32.toNatClampNeg p1)))), (5, .int (V 58 (8 * (24 * b + (Int32.toNatClampNeg p0)) + (Int32.toNatClampNeg p1)))), (4, .int (V 60 (8 * (24 * b + (Int32.toNatClampNeg p0)) + (Int32.toNatClampNeg p1)))), (3, .ref (ad (72 + (24 * b + (Int32.toNatClampNeg p0))))), (0, .ref (ad (38 + b))), (1, .int p0), (2, .int p1)]) hx hb dX0_candidates_165 hl (k := 4) rfl (by rw [ez141]; rfl) (by decide) rfl (fun ls hl => ?_)
                      refine lv_goto (tgt := 40) hx hb dX0_candidates_168 (by decide) ?_
                      have r142 : Int32.toInt 1 = 1 := by decide
                      exact ihlp11 z141 (V 53 (24 * b + (Int32.toNatClampNeg y8))) z140 H locs ls (by omega) (by omega) (by omega) hP hD hS (lv_sub hl [0, 2, 1, 5, 6, 7, 8, 9, 10, 11] rfl)
                    · skip
                      have f143 : ((V 60 (8 * (24 * b + (Int32.toNatClampNeg p0)) + (Int32.toNatClampNeg p1)))).toInt ≠ 2 := b_neq rfl (by decide) c137
                      refine lv_aload hx hb dX0_candidates_146 (lv_at hl 3 rfl) ?_
                      refine va_getN (D := D) (ci := 3) (v := .int (V 53 (24 * b + (Int32.toNatClampNeg y8)))) (fs := (xfComp ad V (24 * b + (Int32.toNatClampNeg y8)))) (C := RX3) (T := TX3) (N := 13) hx hb hg inX3 hown hK hP (72 + (24 * b + (Int32.toNatClampNeg y8))) (xgComp il19) rfl 8 (by decide) (hnw.use 529 n529 rfl) (fun _ h9 => h9) rfl dX0_candidates_148 ?_
                      refine lv_iload hx hb dX0_candidates_151 (lv_at hl 1 rfl) ?_
                      refine lv_icmp_ne (tgt := 165) hx hb dX0_candidates_153 (by decide) (fun c144 => ?_) (fun c144 => ?_)
                      · skip
                        have f145 : ((V 53 (24 * b + (Int32.toNatClampNeg y8)))).toInt ≠ ((V 53 (24 * b + (Int32.toNatClampNeg y8)))).toInt := b_neq rfl rfl c144
                        obtain ⟨z146, ez146⟩ : ∃ y : Int32, y = y8 + 1 := ⟨_, rfl⟩
                        have hz146 : z146.toInt = y8.toInt + 1 := i_add ez146 rfl (by decide) (by (first | exact om_c7103e519a6e klp11_0.1 r13.2 r14 f17 | omega))
                        refine lv_iinc (v := z146) (lv' := [(9, .int z146), (7, .int 0), (8, .int (V 53 (24 * b + (Int32.toNatClampNeg y8)))), (11, .int 1), (10, .ref (ad (72 + (24 * b + (Int32.toNatClampNeg y8))))), (6, .int (V 59 (8 * (24 * b + (Int32.toNatClampNeg p0)) + (Int32.toNatClampNeg p1)))), (5, .int (V 58 (8 * (24 * b + (Int32.toNatClampNeg p0)) + (Int32.toNatClampNeg p1)))), (4, .int (V 60 (8 * (24 * b + (Int32.toNatClampNeg p0)) + (Int32.toNatClampNeg p1)))), (3, .ref (ad (72 + (24 * b + (Int32.toNatClampNeg p0))))), (0, .ref (ad (38 + b))), (1, .int p0), (2, .int p1)]) hx hb dX0_candidates_165 hl (k := 4) rfl (by rw [ez146]; rfl) (by decide) rfl (fun ls hl => ?_)
                        refine lv_goto (tgt := 40) hx hb dX0_candidates_168 (by decide) ?_
                        have r147 : Int32.toInt 0 = 0 := by decide
                        have r148 : Int32.toInt 1 = 1 := by decide
                        exact ihlp11 z146 (V 53 (24 * b + (Int32.toNatClampNeg y8))) 0 H locs ls (by (first | exact om_ebd92ed44179 klp11_0.1 r13.2 r14 f17 hz146 | omega)) (by decide) (by (first | exact om_9592d9319ffa hn hz146 | omega)) hP hD hS (lv_sub hl [0, 2, 1, 5, 6, 7, 8, 9, 10, 11] rfl)
                      · skip
                        have f149 : ((V 53 (24 * b + (Int32.toNatClampNeg y8)))).toInt = ((V 53 (24 * b + (Int32.toNatClampNeg y8)))).toInt := b_eq rfl rfl c144
                        refine lv_iload hx hb dX0_candidates_156 (lv_at hl 0 rfl) ?_
                        refine lv_iconst (v := 1) hx hb dX0_candidates_158 (by decide) ?_
                        refine lv_iload hx hb dX0_candidates_159 (lv_at hl 4 rfl) ?_
                        refine lv_ishl hx hb dX0_candidates_161 ?_
                        refine lv_topi (fun z150 ez150 => ?_)
                        have hz150 : 0 ≤ z150.toInt ∧ z150.toInt < 16777216 := shl1 ez150 (by omega)
                        refine lv_ior hx hb dX0_candidates_162 ?_
                        refine lv_topi (fun z151 ez151 => ?_)
                        have hz151 : 0 ≤ z151.toInt ∧ z151.toInt < 16777216 := or24 ez151 (by decide) (by omega)
                        refine lv_istore (lv' := [(7, .int z151), (8, .int (V 53 (24 * b + (Int32.toNatClampNeg y8)))), (11, .int 1), (10, .ref (ad (72 + (24 * b + (Int32.toNatClampNeg y8))))), (9, .int y8), (6, .int (V 59 (8 * (24 * b + (Int32.toNatClampNeg p0)) + (Int32.toNatClampNeg p1)))), (5, .int (V 58 (8 * (24 * b + (Int32.toNatClampNeg p0)) + (Int32.toNatClampNeg p1)))), (4, .int (V 60 (8 * (24 * b + (Int32.toNatClampNeg p0)) + (Int32.toNatClampNeg p1)))), (3, .ref (ad (72 + (24 * b + (Int32.toNatClampNeg p0))))), (0, .ref (ad (38 + b))), (1, .int p0), (2, .int p1)]) hx hb dX0_candidates_163 hl (by decide) rfl (fun ls hl => ?_)
                        obtain ⟨z152, ez152⟩ : ∃ y : Int32, y = y8 + 1 := ⟨_, rfl⟩
                        have hz152 : z152.toInt = y8.toInt + 1 := i_add ez152 rfl (by decide) (by (first | exact om_c7103e519a6e klp11_0.1 r13.2 r14 f17 | omega))
                        refine lv_iinc (v := z152) (lv' := [(9, .int z152), (7, .int z151), (8, .int (V 53 (24 * b + (Int32.toNatClampNeg y8)))), (11, .int 1), (10, .ref (ad (72 + (24 * b + (Int32.toNatClampNeg y8))))), (6, .int (V 59 (8 * (24 * b + (Int32.toNatClampNeg p0)) + (Int32.toNatClampNeg p1)))), (5, .int (V 58 (8 * (24 * b + (Int32.toNatClampNeg p0)) + (Int32.toNatClampNeg p1)))), (4, .int (V 60 (8 * (24 * b + (Int32.toNatClampNeg p0)) + (Int32.toNatClampNeg p1)))), (3, .ref (ad (72 + (24 * b + (Int32.toNatClampNeg p0))))), (0, .ref (ad (38 + b))), (1, .int p0), (2, .int p1)]) hx hb dX0_candidates_165 hl (k := 4) rfl (by rw [ez152]; rfl) (by decide) rfl (fun ls hl => ?_)
                        refine lv_goto (tgt := 40) hx hb dX0_candidates_168 (by decide) ?_
                        have r153 : Int32.toInt 1 = 1 := by decide
                        exact ihlp11 z152 (V 53 (24 * b + (Int32.toNatClampNeg y8))) z151 H locs ls (by (first | exact om_ebd92ed44179 klp11_0.1 r13.2 r14 f17 hz152 | omega)) (by (first | exact om_8a0dcf576dcd hz151.1 hz151.2 | omega)) (by (first | exact om_9592d9319ffa hn hz152 | omega)) hP hD hS (lv_sub hl [0, 2, 1, 5, 6, 7, 8, 9, 10, 11] rfl)
              · skip
                have f154 : z103.toInt = 0 := b_eq rfl (by decide) c106
                refine lv_goto (tgt := 165) hx hb dX0_candidates_111 (by decide) ?_
                obtain ⟨z155, ez155⟩ : ∃ y : Int32, y = y8 + 1 := ⟨_, rfl⟩
                have hz155 : z155.toInt = y8.toInt + 1 := i_add ez155 rfl (by decide) (by (first | exact om_c7103e519a6e klp11_0.1 r13.2 r14 f17 | omega))
                refine lv_iinc (v := z155) (lv' := [(9, .int z155), (11, .int 1), (10, .ref (ad (72 + (24 * b + (Int32.toNatClampNeg y8))))), (8, .int y9), (7, .int y10), (6, .int (V 59 (8 * (24 * b + (Int32.toNatClampNeg p0)) + (Int32.toNatClampNeg p1)))), (5, .int (V 58 (8 * (24 * b + (Int32.toNatClampNeg p0)) + (Int32.toNatClampNeg p1)))), (4, .int (V 60 (8 * (24 * b + (Int32.toNatClampNeg p0)) + (Int32.toNatClampNeg p1)))), (3, .ref (ad (72 + (24 * b + (Int32.toNatClampNeg p0))))), (0, .ref (ad (38 + b))), (1, .int p0), (2, .int p1)]) hx hb dX0_candidates_165 hl (k := 2) rfl (by rw [ez155]; rfl) (by decide) rfl (fun ls hl => ?_)
                refine lv_goto (tgt := 40) hx hb dX0_candidates_168 (by decide) ?_
                have r156 : Int32.toInt 1 = 1 := by decide
                exact ihlp11 z155 y9 y10 H locs ls (by (first | exact om_ebd92ed44179 klp11_0.1 r13.2 r14 f17 hz155 | omega)) (by (first | exact om_c51a6401fccc klp11_1.1 klp11_1.2 | omega)) (by (first | exact om_9592d9319ffa hn hz155 | omega)) hP hD hS (lv_sub hl [0, 3, 4, 5, 6, 7, 8, 9, 10, 11] rfl)
  have r157 : Int32.toInt 0 = 0 := by decide
  exact lp11 ((24 - (Int32.toInt 0) + 1 : Int).toNat) 0 0 0 H locs ls (by decide) (by decide) (by (first | exact om_817980d3aa47 | omega)) hP hD hS (lv_sub hl [0, 1, 2, 3, 4, 5, 6, 7, 8, 9] rfl)
abbrev r_x_firstCandidate2 : Room := { frames := 2, cells := 0, slots := 0, locals := 53 }
abbrev q_x_firstCandidate2 (D : va_G) (ks : KS) (ad : Nat → Nat) (kk : Nat → ClassId) (V : Vf) (L : Lf) (Z : XZ) (p0 : Int32) (p1 : Int32) (b : Nat) (A : Nat → Prop) : Array Value → State → Outcome → State → Prop := va_Qi (fun (r : Int32) (_ : Unit) => ((-1) ≤ r.toInt ∧ r.toInt ≤ 23)) (fun _ t => gq D A (xw ad kk V L Z) (xty kk Z) t) A
set_option maxHeartbeats 4000000 in
set_option maxRecDepth 100000 in
theorem x_firstCandidate2 (l : Launch) (D : va_G) (ks : KS) (sz : Nat) (ad : Nat → Nat) (kk : Nat → ClassId) (V : Vf) (L : Lf) (Z : XZ) (p0 : Int32) (p1 : Int32) (b : Nat) (hMV : rgd bX V) (rg_p0 : 0 ≤ p0.toInt ∧ p0.toInt ≤ 23) (rg_p1 : 0 ≤ p1.toInt ∧ p1.toInt ≤ 7) (hb2 : b < 2)  : Met l yX0_firstCandidate (Cond.code yX0_firstCandidate cX0_firstCandidate 4 (some .int) :: GW) r_x_firstCandidate2 (va_Pc [.ref (ad (38 + b)), .int p0, .int p1] (gp D ks (xw ad kk V L Z) (xty kk Z) sz)) (q_x_firstCandidate2 D ks ad kk V L Z p0 p1 b (va_A (xw ad kk V L Z) sz)) 0 0 (va_A (xw ad kk V L Z) sz) := by
  refine g_met (q_x_firstCandidate2 D ks ad kk V L Z p0 p1 b) (by decide) (Nat.le_of_ble_eq_true rfl) ?_
  intro p e s m below meth c A ls H locs hx hb hr hml hown hg hlocks hin hnw hgk hP hK hD hS hA hl
  have hown : s.vm.findClass RX0 = some m.cls := hown
  have hl : lv_has ls 4 [(0, .ref (ad (38 + b))), (1, .int p0), (2, .int p1)] := hl
  have hP : va_P D vwCl (xw ad kk V L Z) H := hP
  have hD : va_D A (xw ad kk V L Z) := hD
  have hK : va_K D vwCl (xty kk Z) s := hK
  refine lv_aload_n hx hb dX0_firstCandidate_0 rfl (lv_at hl 0 rfl) ?_
  refine lv_iload_n hx hb dX0_firstCandidate_1 rfl (lv_at hl 1 rfl) ?_
  refine lv_iload_n hx hb dX0_firstCandidate_2 rfl (lv_at hl 2 rfl) ?_
  refine gA_int (gA_runV (As := [.int p0, .int p1]) (rest := []) (ci := 0) (q0 := (38 + b)) hx hb hml hown hg hP hD hK hS hA hnw hgk (x_candidates2 l D ks H.size ad kk V L Z p0 p1 (b) hMV (by (first | exact om_d3435e1acec6 rg_p0.1 rg_p0.2 | omega)) (by (first | exact om_8da659b97699 rg_p1.1 rg_p1.2 | omega)) (show b < 2 from by (first | exact om_f940a4667dd6 hb2 | omega))) w1451 w1082 w1083 w167 w1084 rfl (xgBook hb2) hdV_yX0_candidates ⟨Nat.le_of_ble_eq_true rfl, Nat.le_of_ble_eq_true rfl⟩ rfl hl.1 rfl (Nat.le_of_ble_eq_true rfl) dX0_firstCandidate_3 ⟨Nat.le_of_ble_eq_true rfl, Nat.le_of_ble_eq_true rfl⟩) hP hD hK hS hA (fun z1 u2 H locs w3 hP hD hK hS => ?_)
  have rgz1 := w3
  have rgz1 : 0 ≤ z1.toInt ∧ z1.toInt ≤ 16777215 := rgz1
  refine lv_istore_n (lv' := [(3, .int z1), (0, .ref (ad (38 + b))), (1, .int p0), (2, .int p1)]) hx hb dX0_firstCandidate_6 rfl hl (by decide) rfl (fun ls hl => ?_)
  refine lv_iload_n hx hb dX0_firstCandidate_7 rfl (lv_at hl 0 rfl) ?_
  refine lv_if_ne (tgt := 15) hx hb dX0_firstCandidate_8 (by decide) (fun c4 => ?_) (fun c4 => ?_)
  · skip
    have f5 : z1.toInt ≠ 0 := b_neq rfl (by decide) c4
    refine lv_iload_n hx hb dX0_firstCandidate_15 rfl (lv_at hl 0 rfl) ?_
    refine gE_int (g_runS (As := [.int z1]) (rest := []) (wc := []) (tc := []) hx hb hml hown hg gw_self hP hD hK hS hA hnw hgk [] [] (by decide) rfl rfl (x_nTZ2 l D ks H.size z1 ) w1452 w1143 w175 w1144 hdS_yJ6_numberOfTrailingZeros_0f7a4 ⟨Nat.le_of_ble_eq_true rfl, Nat.le_of_ble_eq_true rfl⟩ rfl hl.1 rfl (Nat.le_of_ble_eq_true rfl) dX0_firstCandidate_16 ⟨Nat.le_of_ble_eq_true rfl, Nat.le_of_ble_eq_true rfl⟩) hP hD hK hS hA (fun z6 u7 H locs w8 hP hD hK hS => ?_)
    obtain ⟨rgz6, t9⟩ := w8
    have rgz6 : 0 ≤ z6.toInt ∧ z6.toInt ≤ 32 := rgz6
    have t9 : ∀ m : Nat, 0 < z1.toInt → z1.toInt < ((2 ^ m : Nat) : Int) → z6.toInt < (m : Int) := t9
    have q24 : ((2 ^ 24 : Nat) : Int) = 16777216 := by decide
    have hn24 := t9 24 (by omega) (by omega)
    exact W.iret (v := z6) hx hb hr (fun t ht hW => ⟨⟨z6, (), rfl, (show (-1) ≤ z6.toInt ∧ z6.toInt ≤ 23 from by omega), by rw [ht]; exact hP, va_K.moved hW.alike hK, hD⟩, hS.F ht⟩) hS.2.2 dX0_firstCandidate_19
  · skip
    have f10 : z1.toInt = 0 := b_eq rfl (by decide) c4
    refine lv_iconst (v := (-1)) hx hb dX0_firstCandidate_11 (by decide) ?_
    refine lv_goto (tgt := 19) hx hb dX0_firstCandidate_12 (by decide) ?_
    exact W.iret (v := (-1)) hx hb hr (fun t ht hW => ⟨⟨(-1), (), rfl, (by decide), by rw [ht]; exact hP, va_K.moved hW.alike hK, hD⟩, hS.F ht⟩) hS.2.2 dX0_firstCandidate_19
end
section
/-! the links grow -/
def lnz (V : Vf) (n : Nat) : Vf := fun c => if c = 31 then va_cpy (V 31) (fun _ => 0) 0 0 n else if c = 32 then va_cpy (V 32) (fun _ => 0) 0 0 n else V c
def XZ.grow (Z : XZ) (q1 q2 : Nat) (c1 c2 : ClassId) : XZ := (Z.fa, Z.nf, q1, q2, c1, c2, 2 * Z.ln)
theorem lnz_o {V : Vf} {n c : Nat} (h : c ≠ 31 ∧ c ≠ 32) : lnz V n c = V c := by
  unfold lnz
  rw [if_neg h.1, if_neg h.2]
theorem cpy_in {f : Nat → Int32} {n k : Nat} : va_cpy f (fun _ => 0) 0 0 n k = if k < n then f k else 0 := by
  unfold va_cpy
  by_cases h : k < n
  · rw [if_pos ⟨Nat.zero_le _, by omega⟩, if_pos h]
    congr 1
    omega
  · rw [if_neg (by omega), if_neg h]
theorem lnz_32 {V : Vf} {n k : Nat} : lnz V n 32 k = if k < n then V 32 k else 0 := cpy_in
theorem lnz_31 {V : Vf} {n k : Nat} : lnz V n 31 k = if k < n then V 31 k else 0 := cpy_in
theorem rgd_lnz {V : Vf} {n : Nat} (h : rgd bX V) : rgd bX (lnz V n) := by
  intro c k
  by_cases h1 : c = 31
  · subst h1
    exact i_full _
  · by_cases h2 : c = 32
    · subst h2
      rw [lnz_32]
      by_cases h3 : k < n
      · rw [if_pos h3]; exact h 32 k
      · rw [if_neg h3]
        exact ⟨(show ((-1) : Int) ≤ Int32.toInt 0 from by decide), (show Int32.toInt 0 ≤ (262143 : Int) from by decide)⟩
    · rw [lnz_o ⟨h1, h2⟩]; exact h c k
theorem lnz_ag {V : Vf} {n : Nat} : agr [] [31, 32] V (lnz V n) := by
  intro c k h
  have h1 : c ≠ 31 := fun e => by subst e; exact Bool.noConfusion (show true = false from h)
  have h2 : c ≠ 32 := fun e => by subst e; exact Bool.noConfusion (show true = false from h)
  rw [lnz_o ⟨h1, h2⟩]
theorem xb_lnz {ad : Nat → Nat} {kk : Nat → ClassId} {V : Vf} {L : Lf} {Z : XZ} {q1 q2 : Nat} {c1 c2 : ClassId} {j m : Nat} : xb ad kk (lnz V m) L (Z.grow q1 q2 c1 c2) j = xb ad kk V L Z j := by
  unfold xb
  by_cases h0 : j < 2
  · rw [if_pos h0, if_pos h0]
    show xeBook ad kk (lnz V m) L (Z.grow q1 q2 c1 c2) _ = xeBook ad kk V L Z _
    unfold xeBook xfBook
    rw [lnz_o (V := V) (n := m) (c := 41) (by decide), lnz_o (V := V) (n := m) (c := 42) (by decide)]
  rw [if_neg h0, if_neg h0]
  by_cases h2 : j < 12
  · rw [if_pos h2, if_pos h2]
    show xeNames ad kk (lnz V m) L (Z.grow q1 q2 c1 c2) _ = xeNames ad kk V L Z _
    unfold xeNames xfNames
    rw [lnz_o (V := V) (n := m) (c := 43) (by decide)]
  rw [if_neg h2, if_neg h2]
  by_cases h12 : j < 22
  · rw [if_pos h12, if_pos h12]
    rfl
  rw [if_neg h12, if_neg h12]
  by_cases h22 : j < 24
  · rw [if_pos h22, if_pos h22]
    show xetypeUnder ad kk (lnz V m) L (Z.grow q1 q2 c1 c2) _ = xetypeUnder ad kk V L Z _
    unfold xetypeUnder
    rw [lnz_o (V := V) (n := m) (c := 45) (by decide)]
  rw [if_neg h22, if_neg h22]
  by_cases h24 : j < 26
  · rw [if_pos h24, if_pos h24]
    show xesettingValues ad kk (lnz V m) L (Z.grow q1 q2 c1 c2) _ = xesettingValues ad kk V L Z _
    unfold xesettingValues
    rw [lnz_o (V := V) (n := m) (c := 46) (by decide)]
  rw [if_neg h24, if_neg h24]
  by_cases h26 : j < 28
  · rw [if_pos h26, if_pos h26]
    rfl
  rw [if_neg h26, if_neg h26]
  by_cases h28 : j < 30
  · rw [if_pos h28, if_pos h28]
    rfl
  rw [if_neg h28, if_neg h28]
  by_cases h30 : j < 32
  · rw [if_pos h30, if_pos h30]
    show xewrapOrder ad kk (lnz V m) L (Z.grow q1 q2 c1 c2) _ = xewrapOrder ad kk V L Z _
    unfold xewrapOrder
    rw [lnz_o (V := V) (n := m) (c := 47) (by decide)]
  rw [if_neg h30, if_neg h30]
  by_cases h32 : j < 34
  · rw [if_pos h32, if_pos h32]
    show xecode ad kk (lnz V m) L (Z.grow q1 q2 c1 c2) _ = xecode ad kk V L Z _
    unfold xecode
    rw [lnz_o (V := V) (n := m) (c := 48) (by decide)]
  rw [if_neg h32, if_neg h32]
  by_cases h34 : j < 82
  · rw [if_pos h34, if_pos h34]
    show xeComp ad kk (lnz V m) L (Z.grow q1 q2 c1 c2) _ = xeComp ad kk V L Z _
    unfold xeComp xfComp
    rw [lnz_o (V := V) (n := m) (c := 49) (by decide), lnz_o (V := V) (n := m) (c := 50) (by decide), lnz_o (V := V) (n := m) (c := 51) (by decide), lnz_o (V := V) (n := m) (c := 52) (by decide), lnz_o (V := V) (n := m) (c := 53) (by decide), lnz_o (V := V) (n := m) (c := 54) (by decide), lnz_o (V := V) (n := m) (c := 55) (by decide), lnz_o (V := V) (n := m) (c := 56) (by decide), lnz_o (V := V) (n := m) (c := 57) (by decide)]
  rw [if_neg h34, if_neg h34]
  by_cases h82 : j < 130
  · rw [if_pos h82, if_pos h82]
    show xeneedTypes ad kk (lnz V m) L (Z.grow q1 q2 c1 c2) _ = xeneedTypes ad kk V L Z _
    unfold xeneedTypes
    rw [lnz_o (V := V) (n := m) (c := 58) (by decide)]
  rw [if_neg h82, if_neg h82]
  by_cases h130 : j < 178
  · rw [if_pos h130, if_pos h130]
    show xeneedWords ad kk (lnz V m) L (Z.grow q1 q2 c1 c2) _ = xeneedWords ad kk V L Z _
    unfold xeneedWords
    rw [lnz_o (V := V) (n := m) (c := 59) (by decide)]
  rw [if_neg h130, if_neg h130]
  by_cases h178 : j < 226
  · rw [if_pos h178, if_pos h178]
    show xeneedKinds ad kk (lnz V m) L (Z.grow q1 q2 c1 c2) _ = xeneedKinds ad kk V L Z _
    unfold xeneedKinds
    rw [lnz_o (V := V) (n := m) (c := 60) (by decide)]
  rw [if_neg h178, if_neg h178]
  by_cases h226 : j < 274
  · rw [if_pos h226, if_pos h226]
    show xemethodStarts ad kk (lnz V m) L (Z.grow q1 q2 c1 c2) _ = xemethodStarts ad kk V L Z _
    unfold xemethodStarts
    rw [lnz_o (V := V) (n := m) (c := 61) (by decide)]
  rw [if_neg h226, if_neg h226]
  by_cases h274 : j < 298
  · rw [if_pos h274, if_pos h274]
    show xeWrap ad kk (lnz V m) L (Z.grow q1 q2 c1 c2) _ = xeWrap ad kk V L Z _
    unfold xeWrap xfWrap
    rw [lnz_o (V := V) (n := m) (c := 62) (by decide), lnz_o (V := V) (n := m) (c := 63) (by decide), lnz_o (V := V) (n := m) (c := 64) (by decide), lnz_o (V := V) (n := m) (c := 65) (by decide), lnz_o (V := V) (n := m) (c := 66) (by decide)]
  rw [if_neg h274, if_neg h274]
  show xeFrame ad kk (lnz V m) L (Z.grow q1 q2 c1 c2) _ = xeFrame ad kk V L Z _
  unfold xeFrame xfFrame
  rw [lnz_o (V := V) (n := m) (c := 67) (by decide), lnz_o (V := V) (n := m) (c := 68) (by decide), lnz_o (V := V) (n := m) (c := 69) (by decide), lnz_o (V := V) (n := m) (c := 70) (by decide), lnz_o (V := V) (n := m) (c := 71) (by decide), lnz_o (V := V) (n := m) (c := 72) (by decide), lnz_o (V := V) (n := m) (c := 73) (by decide), lnz_o (V := V) (n := m) (c := 74) (by decide), lnz_o (V := V) (n := m) (c := 75) (by decide), lnz_o (V := V) (n := m) (c := 76) (by decide), lnz_o (V := V) (n := m) (c := 77) (by decide), lnz_o (V := V) (n := m) (c := 78) (by decide), lnz_o (V := V) (n := m) (c := 79) (by decide), lnz_o (V := V) (n := m) (c := 80) (by decide), lnz_o (V := V) (n := m) (c := 81) (by decide), lnz_o (V := V) (n := m) (c := 82) (by decide), lnz_o (V := V) (n := m) (c := 83) (by decide), lnz_o (V := V) (n := m) (c := 84) (by decide), lnz_o (V := V) (n := m) (c := 85) (by decide)]
  rfl
theorem xs_lnz {ad : Nat → Nat} {kk : Nat → ClassId} {V : Vf} {L : Lf} {Z : XZ} {q1 q2 : Nat} {c1 c2 : ClassId} : xs ad kk (lnz V Z.ln) L (Z.grow q1 q2 c1 c2) = (((xs ad kk V L Z).set 3 (ad 3, .inr (8, ((xfStock ad V L Z).set 10 (.ref q1)).set 11 (.ref q2)))).set 28 (q1, .inl (c1, 2 * Z.ln, .inl (va_cpy (V 31) (fun _ => 0) 0 0 Z.ln)))).set 29 (q2, .inl (c2, 2 * Z.ln, .inl (va_cpy (V 32) (fun _ => 0) 0 0 Z.ln))) := by
  unfold xs xfHouse xfReader xfChecker xfStock xfNotes xfMachine xfTape
  rw [lnz_o (V := V) (n := Z.ln) (c := 0) (by decide), lnz_o (V := V) (n := Z.ln) (c := 1) (by decide), lnz_o (V := V) (n := Z.ln) (c := 2) (by decide), lnz_o (V := V) (n := Z.ln) (c := 3) (by decide), lnz_o (V := V) (n := Z.ln) (c := 4) (by decide), lnz_o (V := V) (n := Z.ln) (c := 5) (by decide), lnz_o (V := V) (n := Z.ln) (c := 6) (by decide), lnz_o (V := V) (n := Z.ln) (c := 10) (by decide), lnz_o (V := V) (n := Z.ln) (c := 12) (by decide), lnz_o (V := V) (n := Z.ln) (c := 13) (by decide), lnz_o (V := V) (n := Z.ln) (c := 15) (by decide), lnz_o (V := V) (n := Z.ln) (c := 16) (by decide), lnz_o (V := V) (n := Z.ln) (c := 17) (by decide), lnz_o (V := V) (n := Z.ln) (c := 18) (by decide), lnz_o (V := V) (n := Z.ln) (c := 19) (by decide), lnz_o (V := V) (n := Z.ln) (c := 20) (by decide), lnz_o (V := V) (n := Z.ln) (c := 21) (by decide), lnz_o (V := V) (n := Z.ln) (c := 22) (by decide), lnz_o (V := V) (n := Z.ln) (c := 23) (by decide), lnz_o (V := V) (n := Z.ln) (c := 24) (by decide), lnz_o (V := V) (n := Z.ln) (c := 25) (by decide), lnz_o (V := V) (n := Z.ln) (c := 26) (by decide), lnz_o (V := V) (n := Z.ln) (c := 27) (by decide), lnz_o (V := V) (n := Z.ln) (c := 28) (by decide), lnz_o (V := V) (n := Z.ln) (c := 29) (by decide), lnz_o (V := V) (n := Z.ln) (c := 30) (by decide), lnz_o (V := V) (n := Z.ln) (c := 33) (by decide), lnz_o (V := V) (n := Z.ln) (c := 34) (by decide), lnz_o (V := V) (n := Z.ln) (c := 35) (by decide), lnz_o (V := V) (n := Z.ln) (c := 36) (by decide), lnz_o (V := V) (n := Z.ln) (c := 37) (by decide), lnz_o (V := V) (n := Z.ln) (c := 39) (by decide), lnz_o (V := V) (n := Z.ln) (c := 40) (by decide)]
  rfl
theorem xw_lnz {ad : Nat → Nat} {kk : Nat → ClassId} {V : Vf} {L : Lf} {Z : XZ} {q1 q2 : Nat} {c1 c2 : ClassId} : xw ad kk (lnz V Z.ln) L (Z.grow q1 q2 c1 c2) = (((xw ad kk V L Z).set 3 (ad 3, .inr (8, ((xfStock ad V L Z).set 10 (.ref q1)).set 11 (.ref q2)))).set 28 (q1, .inl (c1, 2 * Z.ln, .inl (va_cpy (V 31) (fun _ => 0) 0 0 Z.ln)))).set 29 (q2, .inl (c2, 2 * Z.ln, .inl (va_cpy (V 32) (fun _ => 0) 0 0 Z.ln))) := by
  unfold xw
  rw [List.set_append_left _ _ (show 3 < (xs ad kk V L Z).length from by show 3 < 38; omega), List.set_append_left _ _ (by rw [List.length_set]; show 28 < 38; omega), List.set_append_left _ _ (by rw [List.length_set, List.length_set]; show 29 < 38; omega), ← xs_lnz]
  have e : xb ad kk (lnz V Z.ln) L (Z.grow q1 q2 c1 c2) = xb ad kk V L Z := funext (fun j => xb_lnz)
  rw [e]
  rfl
theorem grow_get {α : Type} {ws : List α} {s1 s2 c1 c2 : α} (h : 29 < ws.length) (k : Nat) (x : α) (hx : (((ws.set 3 s2).set 28 c1).set 29 c2)[k]? = some x) : ((((ws ++ [c1]).set 3 s1) ++ [c2]).set 3 s2)[if k = 28 then ws.length else if k = 29 then ws.length + 1 else k]? = some x := by
  have l1 : ((ws ++ [c1]).set 3 s1).length = ws.length + 1 := by rw [List.length_set, List.length_append]; rfl
  have l2 : (((ws ++ [c1]).set 3 s1) ++ [c2]).length = ws.length + 2 := by rw [List.length_append, l1]; rfl
  have g1 : ((((ws ++ [c1]).set 3 s1) ++ [c2]).set 3 s2)[ws.length]? = some c1 := by
    rw [List.getElem?_set, if_neg (by omega), List.getElem?_append_left (by omega), List.getElem?_set, if_neg (by omega), List.getElem?_append_right (by omega), Nat.sub_self]
    rfl
  have g2 : ((((ws ++ [c1]).set 3 s1) ++ [c2]).set 3 s2)[ws.length + 1]? = some c2 := by
    rw [List.getElem?_set, if_neg (by omega), List.getElem?_append_right (by omega), l1, Nat.sub_self]
    rfl
  have g3 : ((((ws ++ [c1]).set 3 s1) ++ [c2]).set 3 s2)[3]? = some s2 := by
    rw [List.getElem?_set, if_pos rfl, if_pos (by omega)]
  rw [List.getElem?_set, List.getElem?_set, List.getElem?_set] at hx
  simp only [List.length_set] at hx
  by_cases k29 : 29 = k
  · rw [if_pos k29, if_pos h] at hx
    have e : (if k = 28 then ws.length else if k = 29 then ws.length + 1 else k) = ws.length + 1 := by rw [if_neg (by omega), if_pos k29.symm]
    rw [e, g2]
    exact hx
  · rw [if_neg k29] at hx
    by_cases k28 : 28 = k
    · rw [if_pos k28, if_pos (by omega)] at hx
      have e : (if k = 28 then ws.length else if k = 29 then ws.length + 1 else k) = ws.length := by rw [if_pos k28.symm]
      rw [e, g1]
      exact hx
    · rw [if_neg k28] at hx
      have e : (if k = 28 then ws.length else if k = 29 then ws.length + 1 else k) = k := by rw [if_neg (by omega), if_neg (by omega)]
      rw [e]
      by_cases k3 : 3 = k
      · rw [if_pos k3, if_pos (by omega)] at hx
        rw [← k3, g3]
        exact hx
      · rw [if_neg k3] at hx
        have hk : k < ws.length := (List.getElem?_eq_some_iff.mp hx).1
        rw [List.getElem?_set, if_neg k3, List.getElem?_append_left (by omega), List.getElem?_set, if_neg k3, List.getElem?_append_left hk]
        exact hx
theorem grow_P {D : va_G} {ws : va_W} {H : Heap} {s1 s2 c1 c2 : Nat × va_E} (h : 29 < ws.length) (hP : va_P D vwCl ((((ws ++ [c1]).set 3 s1) ++ [c2]).set 3 s2) H) : va_P D vwCl (((ws.set 3 s2).set 28 c1).set 29 c2) H := fun k q hq => hP _ q (grow_get h k q hq)
theorem grow_D {A : Nat → Prop} {ws : va_W} {s1 s2 c1 c2 : Nat × va_E} (h : 29 < ws.length) (hD : va_D A ((((ws ++ [c1]).set 3 s1) ++ [c2]).set 3 s2)) : va_D A (((ws.set 3 s2).set 28 c1).set 29 c2) := by
  have ln : (((ws.set 3 s2).set 28 c1).set 29 c2).length = ws.length := by rw [List.length_set, List.length_set, List.length_set]
  refine ⟨fun i j p q hi hj e => ?_, fun k p hk => hD.2 _ p (grow_get h k p hk)⟩
  have w := hD.1 _ _ p q (grow_get h i p hi) (grow_get h j q hj) e
  have li := (List.getElem?_eq_some_iff.mp hi).1
  have lj := (List.getElem?_eq_some_iff.mp hj).1
  rw [ln] at li lj
  by_cases a1 : i = 28
  · rw [if_pos a1] at w
    by_cases b1 : j = 28
    · omega
    · rw [if_neg b1] at w
      by_cases b2 : j = 29
      · rw [if_pos b2] at w; omega
      · rw [if_neg b2] at w; omega
  · rw [if_neg a1] at w
    by_cases a2 : i = 29
    · rw [if_pos a2] at w
      by_cases b1 : j = 28
      · rw [if_pos b1] at w; omega
      · rw [if_neg b1] at w
        by_cases b2 : j = 29
        · omega
        · rw [if_neg b2] at w; omega
    · rw [if_neg a2] at w
      by_cases b1 : j = 28
      · rw [if_pos b1] at w; omega
      · rw [if_neg b1] at w
        by_cases b2 : j = 29
        · rw [if_pos b2] at w; omega
        · rw [if_neg b2] at w; omega
theorem xt_lnz {kk : Nat → ClassId} {Z : XZ} {q1 q2 : Nat} {c1 c2 : ClassId} : xty kk (Z.grow q1 q2 c1 c2) = ((xty kk Z).set 21 (c1, .int)).set 22 (c2, .int) := by
  unfold xty
  rw [List.set_append_left _ _ (show 21 < (xts kk Z).length from by show 21 < 31; omega), List.set_append_left _ _ (by rw [List.length_set]; show 22 < 31; omega)]
  rfl
theorem grow_T {α : Type} {ts : List α} {c1 c2 : α} (h : 22 < ts.length) (k : Nat) (x : α) (hx : ((ts.set 21 c1).set 22 c2)[k]? = some x) : ∃ j : Nat, ((ts ++ [c1]) ++ [c2])[j]? = some x := by
  rw [List.getElem?_set, List.getElem?_set, List.length_set] at hx
  by_cases k22 : 22 = k
  · rw [if_pos k22, if_pos h] at hx
    refine ⟨ts.length + 1, ?_⟩
    rw [List.getElem?_append_right (by rw [List.length_append]; exact Nat.le_refl _), List.length_append]
    show [c2][ts.length + 1 - (ts.length + 1)]? = some x
    rw [Nat.sub_self]
    exact hx
  · rw [if_neg k22] at hx
    by_cases k21 : 21 = k
    · rw [if_pos k21, if_pos (by omega)] at hx
      refine ⟨ts.length, ?_⟩
      rw [List.getElem?_append_left (by rw [List.length_append]; exact Nat.lt_succ_self _), List.getElem?_append_right (Nat.le_refl _), Nat.sub_self]
      exact hx
    · rw [if_neg k21] at hx
      have hk : k < ts.length := (List.getElem?_eq_some_iff.mp hx).1
      refine ⟨k, ?_⟩
      rw [List.getElem?_append_left (by rw [List.length_append]; exact Nat.lt_of_lt_of_le hk (Nat.le_succ _)), List.getElem?_append_left hk]
      exact hx
theorem grow_K {D : va_G} {ts : List (ClassId × FieldType)} {s : State} {c1 c2 : ClassId × FieldType} (h : 22 < ts.length) (hK : va_K D vwCl ((ts ++ [c1]) ++ [c2]) s) : va_K D vwCl ((ts.set 21 c1).set 22 c2) s := ⟨hK.1, fun k q hq => by obtain ⟨j, hj⟩ := grow_T h k q hq; exact hK.2 j q hj⟩
theorem xt_len {kk : Nat → ClassId} {Z : XZ} : (xty kk Z).length = 329 := by
  unfold xty
  rw [List.length_append, List.length_map, List.length_range, show (xts kk Z).length = 31 from rfl]
theorem zc_grow {Z : XZ} {q1 q2 : Nat} {c1 c2 : ClassId} (h : LN Z.ln) (h2 : Z.ln < 262144) : zcc (Z.grow q1 q2 c1 c2) + 2 ≤ zcc Z ∧ zss (Z.grow q1 q2 c1 c2) + 4 * Z.ln = zss Z ∧ LN (2 * Z.ln) ∧ 512 ≤ Z.ln ∧ 2 * Z.ln ≤ 262144 := by
  have e1 : (Z.grow q1 q2 c1 c2).nf = Z.nf := rfl
  have e2 : (Z.grow q1 q2 c1 c2).ln = 2 * Z.ln := rfl
  unfold zcc zss
  rw [e1, e2]
  unfold LN at h ⊢
  omega
theorem ZL.grow {Z : XZ} {q1 q2 : Nat} {c1 c2 : ClassId} (h : LN Z.ln) (h2 : Z.ln < 262144) : ZL Z (Z.grow q1 q2 c1 c2) := ⟨by have := (zc_grow (q1 := q1) (q2 := q2) (c1 := c1) (c2 := c2) h h2).1; omega, by have := (zc_grow (q1 := q1) (q2 := q2) (c1 := c1) (c2 := c2) h h2).2.1; omega, Nat.le_refl _, by show Z.ln ≤ 2 * Z.ln; (first | exact om_38427244a37f | omega), fun _ _ => rfl⟩
theorem SL.grow {V : Vf} {Z : XZ} {q1 q2 : Nat} {c1 c2 : ClassId} (h : SL V Z) (h2 : 2 * Z.ln ≤ 262144) : SL (lnz V Z.ln) (Z.grow q1 q2 c1 c2) := by
  unfold SL
  rw [lnz_o (c := 3) (by decide), lnz_o (c := 30) (by decide)]
  have e2 : (Z.grow q1 q2 c1 c2).ln = 2 * Z.ln := rfl
  rw [e2]
  refine ⟨by have := h.1; omega, h2, h.2.2.1, fun i hi => ?_⟩
  rw [lnz_32, if_pos (by have := h.1; omega)]
  exact h.2.2.2 i hi
/-! a link more -/
def JN (V W : Vf) (Z Z' : XZ) (j : Nat) : Prop := BE V W ∧ (∀ c k : Nat, 67 ≤ c → c ≤ 85 → W c k = V c k) ∧ (W 3 13 = V 3 13 ∧ W 5 5 = V 5 5 ∧ W 5 8 = V 5 8 ∧ W 5 6 = V 5 6 ∧ W 5 9 = V 5 9 ∧ W 5 10 = V 5 10) ∧ (∀ k, W 25 k = V 25 k) ∧ (∀ k, W 26 k = V 26 k) ∧ (∀ k, W 40 k = V 40 k) ∧ (∀ k, k ≠ j → W 30 k = V 30 k) ∧ (W 30 j).toInt ≠ -1 ∧ (W 3 15).toInt = (V 3 15).toInt + 1 ∧ SL W Z' ∧ Z'.nf = Z.nf ∧ LN Z'.ln
theorem MI.jn {V W : Vf} {Z Z' : XZ} {b n r r' j : Nat} {g : Nat → Nat} {w v u : Prop} (h : MI V Z b g n r w v u) (J : JN V W Z Z' j) (hr : r' + 1 ≤ r) : MI W Z' b g n r' w v u := by
  obtain ⟨hB, hR, ⟨e13, e5, e8, e6, e9, e10⟩, e25, e26, e40, e30, n30, e15, sl, enf, hln⟩ := J
  have e43 := hB 43 (5 * b + 2) (by decide) (by decide)
  have o0 := h.o0
  refine ⟨sl, by rw [enf]; exact h.nf, by rw [enf]; exact h.dn, by rw [e43]; exact h.sz, ?_, ?_, ?_, fun i hi => ?_, by rw [e13, e15, e8]; exact ⟨o0.1, by omega, o0.2.2⟩, ?_, h.tx.be hB, h.cd.be hB, by rw [e5]; exact h.mb, hln, ?_⟩
  · intro o ho
    rw [e13] at ho
    rw [e26, e43]
    exact h.oc o ho
  · intro i hi
    rw [e8] at hi
    rw [e40, e13]
    exact h.md i hi
  · intro i k a1 a2
    rw [hR 67 i (by decide) (by decide), hR 67 k (by decide) (by decide), hR 80 i (by decide) (by decide), hR 80 k (by decide) (by decide)]
    exact h.mk2 i k a1 a2
  · have ev : vI W n v u i = vI V n v u i := by unfold vI; rw [hR 67 (n - 1) (by decide) (by decide)]
    rw [ev]
    exact (h.fk i hi).cg hB (fun c a1 a2 => hR c i a1 a2) e13 e8
  · have p := h.pot
    rw [e15, e13, e8, hB 44 0 (by decide) (by decide)]
    omega
  · intro k hk
    rw [e25, e13]
    refine ⟨(h.pt k hk).1, fun o h1 => ?_⟩
    rw [e26]
    exact (h.pt k hk).2 o h1
/-- a link of the one that is made -/
theorem MO.jn {V W : Vf} {Z Z' : XZ} {b d j : Nat} {w v u : Prop} (h : MO V Z b d w v u) (hw : w) (k1 : (V 67 d).toInt = 1) (ph : (V 68 d).toInt ≠ 1) (J : JN V W Z Z' j) : MO W Z' b d False False False := by
  obtain ⟨g, r, x, h0, hx, hF, hm⟩ := h
  have f6 := ((hF.2.2.2.2.2.1 k1).2 ph).2 hw
  have f5 := hF.2.2.2.2.1 k1
  obtain ⟨y, rfl⟩ : ∃ y, x = y + 1 := ⟨x - 1, by omega⟩
  have e67 := J.2.1 67 d (by decide) (by decide)
  refine ⟨g, r - 1, y, (h0.jn (r' := r - 1) J (by omega)).w id (fun _ => Or.inl (by omega)) id (Nat.le_refl _), by omega, ?_, fun k => absurd k (by rw [e67]; omega)⟩
  have hG : FK V b y d False False := ⟨hF.1, hF.2.1, hF.2.2.1, hF.2.2.2.1, hF.2.2.2.2.1, fun a1 => ⟨by omega, fun a2 => ⟨by omega, fun z => z.elim⟩⟩, hF.2.2.2.2.2.2.1, hF.2.2.2.2.2.2.2.1, hF.2.2.2.2.2.2.2.2.1, fun _ _ z => z.elim⟩
  exact hG.cg J.1 (fun c a1 a2 => J.2.1 c d a1 a2) J.2.2.1.1 J.2.2.1.2.2.1
/-- a late link -/
theorem MO.jl {V W : Vf} {Z Z' : XZ} {b d j : Nat} {w v u : Prop} (h : MO V Z b d w v u) (hv : v) (k4 : (V 67 d).toInt = 4) (ph : (V 68 d).toInt = 7) (J : JN V W Z Z' j) : MO W Z' b d True False True := by
  obtain ⟨g, r, x, h0, hx, hF, hm⟩ := h
  have f6 := hF.2.2.2.2.2.2.2.2.2 k4 ph hv
  have e67 := J.2.1 67 d (by decide) (by decide)
  refine ⟨g, r - 1, 0, (h0.jn (r' := r - 1) J (by omega)).w id (fun _ => Or.inl (by omega)) id (Nat.le_refl _), Nat.zero_le _, ?_, fun k => absurd k (by rw [e67]; omega)⟩
  have hG : FK V b 0 d True False := ⟨hF.1, hF.2.1, hF.2.2.1, hF.2.2.2.1, hF.2.2.2.2.1, fun a1 => absurd a1 (by omega), hF.2.2.2.2.2.2.1, hF.2.2.2.2.2.2.2.1, hF.2.2.2.2.2.2.2.2.1, fun _ _ z => z.elim⟩
  exact hG.cg J.1 (fun c a1 a2 => J.2.1 c d a1 a2) J.2.2.1.1 J.2.2.1.2.2.1
/-- what join writes, by its two ways -/
theorem JN.mk {V V1 V2 V3 W : Vf} {Z : XZ} {l j c k : Nat} {o x y : Int32} (h : SL V Z) (hln : LN Z.ln) (hl : (l : Int) = (V 3 15).toInt) (hz : (l : Int) < (Z.ln : Int)) (e1 : V1 = up2 V 31 l o) (e2 : V2 = up2 V1 32 l (-1)) (e3 : V3 = up2 V2 c k x) (hx : x.toInt = (V 3 15).toInt) (e4 : W = up2 V3 3 15 y) (hy : y.toInt = (V 3 15).toInt + 1) (hck : (c = 30 ∧ k = j) ∨ (c = 32 ∧ (k : Int) < (V 3 15).toInt ∧ (V 30 j).toInt ≠ -1)) : JN V W Z Z j := by
  have o3 : ∀ c' k', ¬ (c' = 3 ∧ k' = 15) → ¬ (c' = c ∧ k' = k) → ¬ (c' = 32 ∧ k' = l) → c' ≠ 31 → W c' k' = V c' k' := fun c' k' a1 a2 a3 a4 => by
    rw [e4, up2_pl a1, e3, up2_pl a2, e2, up2_pl a3, e1, up2_pl (fun a => a4 a.1)]
  have e15 : (W 3 15).toInt = (V 3 15).toInt + 1 := by rw [up2_s e4]; exact hy
  have n32 : (W 32 l).toInt = -1 ∨ (W 32 l) = x := by
    rw [e4, up2_pl (by omega), e3]
    by_cases q : 32 = c ∧ l = k
    · rw [q.1, q.2]; exact Or.inr up2_ss
    · left
      rw [up2_pl q, up2_s e2]
      decide
  have e13 : W 3 13 = V 3 13 := o3 _ _ (by omega) (by omega) (by omega) (by omega)
  refine ⟨fun c' k' a1 a2 => o3 c' k' (by omega) (by omega) (by omega) (by omega), fun c' k' a1 a2 => o3 c' k' (by omega) (by omega) (by omega) (by omega), ⟨e13, o3 _ _ (by omega) (by omega) (by omega) (by omega), o3 _ _ (by omega) (by omega) (by omega) (by omega), o3 _ _ (by omega) (by omega) (by omega) (by omega), o3 _ _ (by omega) (by omega) (by omega) (by omega), o3 _ _ (by omega) (by omega) (by omega) (by omega)⟩, fun k' => o3 _ _ (by omega) (by omega) (by omega) (by omega), fun k' => o3 _ _ (by omega) (by omega) (by omega) (by omega), fun k' => o3 _ _ (by omega) (by omega) (by omega) (by omega), fun k' hk => o3 _ _ (by omega) (by omega) (by omega) (by omega), ?_, e15, ?_, rfl, hln⟩
  · rcases hck with ⟨q1, q2⟩ | ⟨q1, q2, q3⟩
    · rw [e4, up2_pl (by omega), e3, q1, q2, up2_ss]
      omega
    · rw [o3 30 j (by omega) (by omega) (by omega) (by omega)]
      exact q3
  · unfold SL
    rw [e15, e13]
    refine ⟨by omega, h.2.1, fun o' k' a1 a2 => ?_, fun i hi => ?_⟩
    · have z := h.2.2.1 o' k' a1 a2
      by_cases q : 30 = c ∧ 8 * o' + k' = k
      · rw [e4, up2_pl (by omega), e3, q.1, q.2, up2_ss]
        omega
      · rw [o3 30 _ (by omega) q (by omega) (by omega)]
        omega
    · by_cases q : i = l
      · rw [q]
        rcases n32 with n | n
        · omega
        · rw [n]; omega
      · by_cases q2 : 32 = c ∧ i = k
        · rw [e4, up2_pl (by omega), e3, q2.1, q2.2, up2_ss]
          omega
        · rw [o3 32 i (by omega) q2 (by omega) (by omega)]
          have := h.2.2.2 i (by omega)
          omega
theorem JN.gr {V W : Vf} {Z : XZ} {q1 q2 j n : Nat} {c1 c2 : ClassId} (J : JN (lnz V n) W (Z.grow q1 q2 c1 c2) (Z.grow q1 q2 c1 c2) j) : JN V W Z (Z.grow q1 q2 c1 c2) j := by
  have o : ∀ c, c ≠ 31 ∧ c ≠ 32 → lnz V n c = V c := fun c h => lnz_o h
  obtain ⟨a1, a2, a3, a25, a4, a5, a6, a7, a8, a9, a10, a11⟩ := J
  rw [o 3 (by decide), o 5 (by decide)] at a3
  rw [o 25 (by decide)] at a25
  rw [o 26 (by decide)] at a4
  rw [o 40 (by decide)] at a5
  rw [o 30 (by decide)] at a6
  rw [o 3 (by decide)] at a8
  refine ⟨fun c k h1 h2 => ?_, fun c k h1 h2 => ?_, a3, a25, a4, a5, a6, a7, a8, a9, rfl, a11⟩
  · rw [a1 c k h1 h2, o c (by omega)]
  · rw [a2 c k h1 h2, o c (by omega)]

theorem w1366 : Cond.methodLink RJ7 304 yJ9_min_7cf53 ∈ GW := gw_k tk9_6 11 (by decide +kernel) rfl
theorem w1367 : Cond.methodLink RJ7 150 arraycopyName ∈ GW := gw_k tk9_6 12 (by decide +kernel) rfl
theorem w1369 : Cond.native arraycopyName ∈ GW := gw_k tk9_6 14 (by decide +kernel) rfl
theorem w1368 : Cond.static arraycopyName ∈ GW := gw_k tk9_6 13 (by decide +kernel) rfl
theorem w181 : Cond.initialized RJ10 ∈ GW := gw_k tk9_1 26 (by decide +kernel) rfl
theorem dk9_dJ7_copyOf_59c91_0_0 : dOk cJ7_copyOf_59c91 [(0, .iload_n 1, 1), (1, .aload_n 0, 1), (2, .arraylength, 1), (3, .if_icmp .ne 11, 3), (14, .iload_n 1, 1), (15, .newarray .int, 2), (17, .astore_n 2, 1), (18, .aload_n 0, 1), (19, .iconst 0, 1), (20, .aload_n 2, 1), (21, .iconst 0, 1), (22, .aload_n 0, 1), (23, .arraylength, 1), (24, .iload_n 1, 1), (25, .invokestatic 304, 3), (28, .invokestatic 150, 3), (31, .aload_n 2, 1), (32, .areturn, 1)] = true := by decide +kernel
theorem dJ7_copyOf_59c91_0 : decode cJ7_copyOf_59c91 0 = .ok (.iload_n 1, 1) := dr9 dk9_dJ7_copyOf_59c91_0_0 0 (0, .iload_n 1, 1) rfl
theorem dJ7_copyOf_59c91_1 : decode cJ7_copyOf_59c91 1 = .ok (.aload_n 0, 1) := dr9 dk9_dJ7_copyOf_59c91_0_0 1 (1, .aload_n 0, 1) rfl
theorem dJ7_copyOf_59c91_2 : decode cJ7_copyOf_59c91 2 = .ok (.arraylength, 1) := dr9 dk9_dJ7_copyOf_59c91_0_0 2 (2, .arraylength, 1) rfl
theorem dJ7_copyOf_59c91_3 : decode cJ7_copyOf_59c91 3 = .ok (.if_icmp .ne 11, 3) := dr9 dk9_dJ7_copyOf_59c91_0_0 3 (3, .if_icmp .ne 11, 3) rfl
theorem dJ7_copyOf_59c91_14 : decode cJ7_copyOf_59c91 14 = .ok (.iload_n 1, 1) := dr9 dk9_dJ7_copyOf_59c91_0_0 4 (14, .iload_n 1, 1) rfl
theorem dJ7_copyOf_59c91_15 : decode cJ7_copyOf_59c91 15 = .ok (.newarray .int, 2) := dr9 dk9_dJ7_copyOf_59c91_0_0 5 (15, .newarray .int, 2) rfl
theorem dJ7_copyOf_59c91_17 : decode cJ7_copyOf_59c91 17 = .ok (.astore_n 2, 1) := dr9 dk9_dJ7_copyOf_59c91_0_0 6 (17, .astore_n 2, 1) rfl
theorem dJ7_copyOf_59c91_18 : decode cJ7_copyOf_59c91 18 = .ok (.aload_n 0, 1) := dr9 dk9_dJ7_copyOf_59c91_0_0 7 (18, .aload_n 0, 1) rfl
theorem dJ7_copyOf_59c91_19 : decode cJ7_copyOf_59c91 19 = .ok (.iconst 0, 1) := dr9 dk9_dJ7_copyOf_59c91_0_0 8 (19, .iconst 0, 1) rfl
theorem dJ7_copyOf_59c91_20 : decode cJ7_copyOf_59c91 20 = .ok (.aload_n 2, 1) := dr9 dk9_dJ7_copyOf_59c91_0_0 9 (20, .aload_n 2, 1) rfl
theorem dJ7_copyOf_59c91_21 : decode cJ7_copyOf_59c91 21 = .ok (.iconst 0, 1) := dr9 dk9_dJ7_copyOf_59c91_0_0 10 (21, .iconst 0, 1) rfl
theorem dJ7_copyOf_59c91_22 : decode cJ7_copyOf_59c91 22 = .ok (.aload_n 0, 1) := dr9 dk9_dJ7_copyOf_59c91_0_0 11 (22, .aload_n 0, 1) rfl
theorem dJ7_copyOf_59c91_23 : decode cJ7_copyOf_59c91 23 = .ok (.arraylength, 1) := dr9 dk9_dJ7_copyOf_59c91_0_0 12 (23, .arraylength, 1) rfl
theorem dJ7_copyOf_59c91_24 : decode cJ7_copyOf_59c91 24 = .ok (.iload_n 1, 1) := dr9 dk9_dJ7_copyOf_59c91_0_0 13 (24, .iload_n 1, 1) rfl
theorem dJ7_copyOf_59c91_25 : decode cJ7_copyOf_59c91 25 = .ok (.invokestatic 304, 3) := dr9 dk9_dJ7_copyOf_59c91_0_0 14 (25, .invokestatic 304, 3) rfl
theorem dJ7_copyOf_59c91_28 : decode cJ7_copyOf_59c91 28 = .ok (.invokestatic 150, 3) := dr9 dk9_dJ7_copyOf_59c91_0_0 15 (28, .invokestatic 150, 3) rfl
theorem dJ7_copyOf_59c91_31 : decode cJ7_copyOf_59c91 31 = .ok (.aload_n 2, 1) := dr9 dk9_dJ7_copyOf_59c91_0_0 16 (31, .aload_n 2, 1) rfl
theorem dJ7_copyOf_59c91_32 : decode cJ7_copyOf_59c91 32 = .ok (.areturn, 1) := dr9 dk9_dJ7_copyOf_59c91_0_0 17 (32, .areturn, 1) rfl
theorem ap_l {α : Type} {ws : List α} {e x : α} {k : Nat} (h : ws[k]? = some x) : (ws ++ [e])[k]? = some x := by
  rw [List.getElem?_append_left (List.getElem?_eq_some_iff.mp h).1]
  exact h
theorem ap_r {α : Type} {ws : List α} {e : α} : (ws ++ [e])[ws.length]? = some e := by
  rw [List.getElem?_append_right (Nat.le_refl _), Nat.sub_self]
  rfl
theorem ap_s {α : Type} {ws : List α} {e f : α} : (ws ++ [e]).set ws.length f = ws ++ [f] := by
  rw [List.set_append_right _ _ (Nat.le_refl _), Nat.sub_self]
  rfl
abbrev r_copyOf (k : Nat) : Room := { frames := 1, cells := 1, slots := k, locals := 40 }
abbrev q_copyOf (D : va_G) (ws : va_W) (tys : List (ClassId × FieldType)) (n k : Nat) (f : Nat → Int32) (A : Nat → Prop) : Array Value → State → Outcome → State → Prop := qZr D (fun (u : Nat × ClassId) => True) (fun u => u.1) (fun u => ws ++ [(u.1, .inl (u.2, k, .inl (va_cpy f (fun _ => 0) 0 0 n)))]) (fun u => tys ++ [(u.2, .int)]) (fun _ => 1) (fun _ => k) A
set_option maxHeartbeats 4000000 in
set_option maxRecDepth 100000 in
theorem c_copyOf (l : Launch) (D : va_G) (ks : KS) (sz : Nat) (ws : va_W) (tys : List (ClassId × FieldType)) (q0 t0 a : Nat) (kA : ClassId) (n k : Nat) (f : Nat → Int32) (z : Int32) (ha : ws[q0]? = some (a, .inl (kA, n, .inl f))) (ht : tys[t0]? = some (kA, .int)) (hz : z.toInt = (k : Int)) (hn : n < k) (hk : k ≤ 300000) : Met l yJ7_copyOf_59c91 (Cond.code yJ7_copyOf_59c91 cJ7_copyOf_59c91 3 (some (.array .int)) :: GW) (r_copyOf k) (va_Pc [.ref a, .int z] (gp D ks ws tys sz)) (q_copyOf D ws tys n k f (va_A ws sz)) 1 k (va_A ws sz) := by
  refine g_met (q_copyOf D ws tys n k f) (by decide) (Nat.le_of_ble_eq_true rfl) ?_
  intro p e s m below meth c A ls H locs hx hb hr hml hown hg hlocks hin hnw hgk hP hK hD hS hA hl
  have hown : s.vm.findClass RJ7 = some m.cls := hown
  have hl : lv_has ls 3 [(0, .ref a), (1, .int z)] := hl
  have hnn : (nI n).toInt = (n : Int) := nI_toInt (by omega)
  have ncl : Int32.toNatClampNeg (nI n) = n := nI_clamp (by omega)
  have zcl := i_clamp (x := z) rfl (by (first | exact om_f0b80f1cbc29 hz hn | omega))
  have e0 : Int32.toInt 0 = 0 := by decide
  have hz0 : ¬ z < 0 := fun q => by have := Int32.lt_iff_toInt_lt.mp q; omega
  have hn0 : ¬ nI n < 0 := fun q => by have := Int32.lt_iff_toInt_lt.mp q; omega
  have hmn : ¬ z < nI n := fun q => by have := Int32.lt_iff_toInt_lt.mp q; omega
  refine W.know (fun ka kb => ?_)
  refine lv_iload_n hx hb dJ7_copyOf_59c91_0 rfl (lv_at hl 1 rfl) ?_
  refine lv_aload_n hx hb dJ7_copyOf_59c91_1 rfl (lv_at hl 0 rfl) ?_
  refine va_alen (D := D) (v := nI n) hx hb hK hP q0 t0 ha ht rfl dJ7_copyOf_59c91_2 ?_
  refine lv_icmp_ne (tgt := 14) hx hb dJ7_copyOf_59c91_3 (by decide) (fun c2 => ?_) (fun c2 => ?_)
  · refine lv_iload_n hx hb dJ7_copyOf_59c91_14 rfl (lv_at hl 1 rfl) ?_
    refine va_newa (D := D) (atype := .int) (ty := .int) (n := z) (N' := k) (a0 := (k, .inl (fun _ => 0))) hx hb (hg _ w297) rfl hK hP hD hS hA (fun _ => rfl) hz0 (by omega) (by show k * 4 ≤ 536870912; (first | exact om_5a470900123d hk | omega)) (by show 0 + 1 ≤ 1; omega) (by show 0 + k ≤ k; (first | exact om_d1ed6895266e | omega)) dJ7_copyOf_59c91_15 (fun q kq H hK hP hD hS => ?_)
    refine lv_astore_n (lv' := [(2, .ref q), (0, .ref a), (1, .int z)]) hx hb dJ7_copyOf_59c91_17 rfl hl (by decide) rfl (fun ls hl => ?_)
    refine lv_aload_n hx hb dJ7_copyOf_59c91_18 rfl (lv_at hl 1 rfl) ?_
    refine lv_iconst (v := 0) hx hb dJ7_copyOf_59c91_19 (by decide) ?_
    refine lv_aload_n hx hb dJ7_copyOf_59c91_20 rfl (lv_at hl 0 rfl) ?_
    refine lv_iconst (v := 0) hx hb dJ7_copyOf_59c91_21 (by decide) ?_
    refine lv_aload_n hx hb dJ7_copyOf_59c91_22 rfl (lv_at hl 1 rfl) ?_
    refine va_alen (D := D) (v := nI n) hx hb hK hP q0 t0 (ap_l ha) (ap_l ht) rfl dJ7_copyOf_59c91_23 ?_
    refine lv_iload_n hx hb dJ7_copyOf_59c91_24 rfl (lv_at hl 2 rfl) ?_
    refine va_mmin (x := nI n) (y := z) hx hb (hml.trans hl.1.symm) hown (hg _ w1366) (hg _ w811) (hg _ w173) (hg _ w812) (Nat.le_of_ble_eq_true rfl) (Nat.le_of_ble_eq_true rfl) (by show 0 + 1 ≤ 1; omega) (by show 0 + k ≤ k; (first | exact om_d1ed6895266e | omega)) dJ7_copyOf_59c91_25 ?_
    refine g_top (v := nI n) (if_neg hmn) ?_
    refine va_copyi (D := D) (ty := .int) hx hb (hml.trans hl.1.symm) hown (hg _ w1367) (hg _ w1369) (hg _ w1368) (hg _ w181) hK hP hD hS q0 ws.length t0 tys.length (ap_l ha) ap_r (ap_l ht) ap_r rfl (by decide) (by decide) hn0 (by show 0 + Int32.toNatClampNeg (nI n) ≤ n; (first | exact om_b0f4824b8fa3 ncl | omega)) (by show 0 + Int32.toNatClampNeg (nI n) ≤ k; (first | exact om_561babfe1225 hn ncl | omega)) (fun i hi => rfl) (Nat.le_of_ble_eq_true rfl) (Nat.le_of_ble_eq_true rfl) dJ7_copyOf_59c91_28 (fun H locs hP hD hS => ?_)
    rw [ap_s, ncl] at hP hD
    refine lv_aload_n hx hb dJ7_copyOf_59c91_31 rfl (lv_at hl 0 rfl) ?_
    refine W.know (fun kr1 kr2 => ?_)
    refine W.widen (k := 1) (n := k) (by omega) (by omega) ?_
    exact W.aret (v := .ref q) hx hb hr (Or.inr ⟨_, rfl⟩) (Or.inr ⟨_, rfl⟩) (fun t ht hW => ⟨⟨(q, kq), rfl, trivial, ⟨by rw [ht]; exact hP, va_K.moved hW.alike hK, hD⟩, by rw [ht]; exact (show H.size ≤ s.heap.size + 1 from by omega), by rw [ht]; exact (show tot H ≤ tot s.heap + k from by omega)⟩, hS.F ht⟩) hS.2.2 dJ7_copyOf_59c91_32
  · exfalso
    have c3 : z = nI n := c2
    rw [c3] at hz
    omega
end
section
theorem w1358 : Cond.code yJ7_copyOf_59c91 cJ7_copyOf_59c91 3 (some (.array .int)) ∈ GW := gw_k tk9_6 3 (rfl) rfl
theorem w1356 : Cond.methodLink RX8 83 yJ7_copyOf_59c91 ∈ GW := gw_k tk9_6 1 (by decide +kernel) rfl
theorem w1357 : Cond.static yJ7_copyOf_59c91 ∈ GW := gw_k tk9_6 2 (by decide +kernel) rfl
theorem hdS_yJ7_copyOf_59c91 : yJ7_copyOf_59c91.cls ≠ "java/lang/invoke/MethodHandle" ∧ yJ7_copyOf_59c91.cls ≠ "java/lang/invoke/VarHandle" ∧ (parseMethodDescriptor yJ7_copyOf_59c91.desc).map (fun d => d.parameters.length) = some 2 := by decide +kernel
theorem dk9_dX8_join_0_0 : dOk cX8_join [(0, .aload_n 0, 1), (1, .getfield 69, 3), (4, .aload_n 0, 1), (5, .getfield 43, 3), (8, .arraylength, 1), (9, .if_icmp .lt 37, 3), (46, .aload_n 0, 1), (47, .getfield 43, 3), (50, .aload_n 0, 1), (51, .getfield 69, 3), (54, .iload_n 3, 1), (55, .iastore, 1), (56, .aload_n 0, 1), (57, .getfield 46, 3), (60, .aload_n 0, 1), (61, .getfield 69, 3), (64, .iconst (-1), 1), (65, .iastore, 1), (66, .aload_n 0, 1), (67, .getfield 40, 3), (70, .iload_n 1, 1), (71, .bipush 8, 2), (73, .imul, 1), (74, .iload_n 2, 1)] = true ∧ dOk cX8_join [(75, .iadd, 1), (76, .iaload, 1), (77, .istore 4, 2), (79, .iload 4, 2), (81, .iconst (-1), 1), (82, .if_icmp .ne 21, 3), (103, .iconst 0, 1), (104, .istore 5, 2), (106, .iload 5, 2), (108, .bipush 24, 2), (110, .if_icmp .ge 29, 3), (139, .aload_n 0, 1), (140, .getfield 46, 3), (143, .iload 4, 2), (145, .aload_n 0, 1), (146, .getfield 69, 3), (149, .iastore, 1), (150, .aload_n 0, 1), (151, .dup, 1), (152, .getfield 69, 3), (155, .iconst 1, 1), (156, .iadd, 1), (157, .putfield 69, 3), (160, .return_, 1)] = true ∧ dOk cX8_join [(113, .aload_n 0, 1), (114, .getfield 46, 3), (117, .iload 4, 2), (119, .iaload, 1), (120, .iconst (-1), 1), (121, .if_icmp .eq 18, 3), (124, .aload_n 0, 1), (125, .getfield 46, 3), (128, .iload 4, 2), (130, .iaload, 1), (131, .istore 4, 2), (133, .iinc 5 1, 3), (136, .goto (-30), 3), (85, .aload_n 0, 1), (86, .getfield 40, 3), (89, .iload_n 1, 1), (90, .bipush 8, 2), (92, .imul, 1), (93, .iload_n 2, 1), (94, .iadd, 1), (95, .aload_n 0, 1), (96, .getfield 69, 3), (99, .iastore, 1), (100, .goto 50, 3)] = true ∧ dOk cX8_join [(12, .aload_n 0, 1), (13, .aload_n 0, 1), (14, .getfield 43, 3), (17, .aload_n 0, 1), (18, .getfield 69, 3), (21, .iconst 2, 1), (22, .imul, 1), (23, .invokestatic 83, 3), (26, .putfield 43, 3), (29, .aload_n 0, 1), (30, .aload_n 0, 1), (31, .getfield 46, 3), (34, .aload_n 0, 1), (35, .getfield 69, 3), (38, .iconst 2, 1), (39, .imul, 1), (40, .invokestatic 83, 3), (43, .putfield 46, 3)] = true := by decide +kernel
theorem dX8_join_0 : decode cX8_join 0 = .ok (.aload_n 0, 1) := dr9 dk9_dX8_join_0_0.1 0 (0, .aload_n 0, 1) rfl
theorem dX8_join_1 : decode cX8_join 1 = .ok (.getfield 69, 3) := dr9 dk9_dX8_join_0_0.1 1 (1, .getfield 69, 3) rfl
theorem dX8_join_4 : decode cX8_join 4 = .ok (.aload_n 0, 1) := dr9 dk9_dX8_join_0_0.1 2 (4, .aload_n 0, 1) rfl
theorem dX8_join_5 : decode cX8_join 5 = .ok (.getfield 43, 3) := dr9 dk9_dX8_join_0_0.1 3 (5, .getfield 43, 3) rfl
theorem dX8_join_8 : decode cX8_join 8 = .ok (.arraylength, 1) := dr9 dk9_dX8_join_0_0.1 4 (8, .arraylength, 1) rfl
theorem dX8_join_9 : decode cX8_join 9 = .ok (.if_icmp .lt 37, 3) := dr9 dk9_dX8_join_0_0.1 5 (9, .if_icmp .lt 37, 3) rfl
theorem dX8_join_46 : decode cX8_join 46 = .ok (.aload_n 0, 1) := dr9 dk9_dX8_join_0_0.1 6 (46, .aload_n 0, 1) rfl
theorem dX8_join_47 : decode cX8_join 47 = .ok (.getfield 43, 3) := dr9 dk9_dX8_join_0_0.1 7 (47, .getfield 43, 3) rfl
theorem dX8_join_50 : decode cX8_join 50 = .ok (.aload_n 0, 1) := dr9 dk9_dX8_join_0_0.1 8 (50, .aload_n 0, 1) rfl
theorem dX8_join_51 : decode cX8_join 51 = .ok (.getfield 69, 3) := dr9 dk9_dX8_join_0_0.1 9 (51, .getfield 69, 3) rfl
theorem dX8_join_54 : decode cX8_join 54 = .ok (.iload_n 3, 1) := dr9 dk9_dX8_join_0_0.1 10 (54, .iload_n 3, 1) rfl
theorem dX8_join_55 : decode cX8_join 55 = .ok (.iastore, 1) := dr9 dk9_dX8_join_0_0.1 11 (55, .iastore, 1) rfl
theorem dX8_join_56 : decode cX8_join 56 = .ok (.aload_n 0, 1) := dr9 dk9_dX8_join_0_0.1 12 (56, .aload_n 0, 1) rfl
theorem dX8_join_57 : decode cX8_join 57 = .ok (.getfield 46, 3) := dr9 dk9_dX8_join_0_0.1 13 (57, .getfield 46, 3) rfl
theorem dX8_join_60 : decode cX8_join 60 = .ok (.aload_n 0, 1) := dr9 dk9_dX8_join_0_0.1 14 (60, .aload_n 0, 1) rfl
theorem dX8_join_61 : decode cX8_join 61 = .ok (.getfield 69, 3) := dr9 dk9_dX8_join_0_0.1 15 (61, .getfield 69, 3) rfl
theorem dX8_join_64 : decode cX8_join 64 = .ok (.iconst (-1), 1) := dr9 dk9_dX8_join_0_0.1 16 (64, .iconst (-1), 1) rfl
theorem dX8_join_65 : decode cX8_join 65 = .ok (.iastore, 1) := dr9 dk9_dX8_join_0_0.1 17 (65, .iastore, 1) rfl
theorem dX8_join_66 : decode cX8_join 66 = .ok (.aload_n 0, 1) := dr9 dk9_dX8_join_0_0.1 18 (66, .aload_n 0, 1) rfl
theorem dX8_join_67 : decode cX8_join 67 = .ok (.getfield 40, 3) := dr9 dk9_dX8_join_0_0.1 19 (67, .getfield 40, 3) rfl
theorem dX8_join_70 : decode cX8_join 70 = .ok (.iload_n 1, 1) := dr9 dk9_dX8_join_0_0.1 20 (70, .iload_n 1, 1) rfl
theorem dX8_join_71 : decode cX8_join 71 = .ok (.bipush 8, 2) := dr9 dk9_dX8_join_0_0.1 21 (71, .bipush 8, 2) rfl
theorem dX8_join_73 : decode cX8_join 73 = .ok (.imul, 1) := dr9 dk9_dX8_join_0_0.1 22 (73, .imul, 1) rfl
theorem dX8_join_74 : decode cX8_join 74 = .ok (.iload_n 2, 1) := dr9 dk9_dX8_join_0_0.1 23 (74, .iload_n 2, 1) rfl
theorem dX8_join_75 : decode cX8_join 75 = .ok (.iadd, 1) := dr9 dk9_dX8_join_0_0.2.1 0 (75, .iadd, 1) rfl
theorem dX8_join_76 : decode cX8_join 76 = .ok (.iaload, 1) := dr9 dk9_dX8_join_0_0.2.1 1 (76, .iaload, 1) rfl
theorem dX8_join_77 : decode cX8_join 77 = .ok (.istore 4, 2) := dr9 dk9_dX8_join_0_0.2.1 2 (77, .istore 4, 2) rfl
theorem dX8_join_79 : decode cX8_join 79 = .ok (.iload 4, 2) := dr9 dk9_dX8_join_0_0.2.1 3 (79, .iload 4, 2) rfl
theorem dX8_join_81 : decode cX8_join 81 = .ok (.iconst (-1), 1) := dr9 dk9_dX8_join_0_0.2.1 4 (81, .iconst (-1), 1) rfl
theorem dX8_join_82 : decode cX8_join 82 = .ok (.if_icmp .ne 21, 3) := dr9 dk9_dX8_join_0_0.2.1 5 (82, .if_icmp .ne 21, 3) rfl
theorem dX8_join_103 : decode cX8_join 103 = .ok (.iconst 0, 1) := dr9 dk9_dX8_join_0_0.2.1 6 (103, .iconst 0, 1) rfl
theorem dX8_join_104 : decode cX8_join 104 = .ok (.istore 5, 2) := dr9 dk9_dX8_join_0_0.2.1 7 (104, .istore 5, 2) rfl
theorem dX8_join_106 : decode cX8_join 106 = .ok (.iload 5, 2) := dr9 dk9_dX8_join_0_0.2.1 8 (106, .iload 5, 2) rfl
theorem dX8_join_108 : decode cX8_join 108 = .ok (.bipush 24, 2) := dr9 dk9_dX8_join_0_0.2.1 9 (108, .bipush 24, 2) rfl
theorem dX8_join_110 : decode cX8_join 110 = .ok (.if_icmp .ge 29, 3) := dr9 dk9_dX8_join_0_0.2.1 10 (110, .if_icmp .ge 29, 3) rfl
theorem dX8_join_139 : decode cX8_join 139 = .ok (.aload_n 0, 1) := dr9 dk9_dX8_join_0_0.2.1 11 (139, .aload_n 0, 1) rfl
theorem dX8_join_140 : decode cX8_join 140 = .ok (.getfield 46, 3) := dr9 dk9_dX8_join_0_0.2.1 12 (140, .getfield 46, 3) rfl
theorem dX8_join_143 : decode cX8_join 143 = .ok (.iload 4, 2) := dr9 dk9_dX8_join_0_0.2.1 13 (143, .iload 4, 2) rfl
theorem dX8_join_145 : decode cX8_join 145 = .ok (.aload_n 0, 1) := dr9 dk9_dX8_join_0_0.2.1 14 (145, .aload_n 0, 1) rfl
theorem dX8_join_146 : decode cX8_join 146 = .ok (.getfield 69, 3) := dr9 dk9_dX8_join_0_0.2.1 15 (146, .getfield 69, 3) rfl
theorem dX8_join_149 : decode cX8_join 149 = .ok (.iastore, 1) := dr9 dk9_dX8_join_0_0.2.1 16 (149, .iastore, 1) rfl
theorem dX8_join_150 : decode cX8_join 150 = .ok (.aload_n 0, 1) := dr9 dk9_dX8_join_0_0.2.1 17 (150, .aload_n 0, 1) rfl
theorem dX8_join_151 : decode cX8_join 151 = .ok (.dup, 1) := dr9 dk9_dX8_join_0_0.2.1 18 (151, .dup, 1) rfl
theorem dX8_join_152 : decode cX8_join 152 = .ok (.getfield 69, 3) := dr9 dk9_dX8_join_0_0.2.1 19 (152, .getfield 69, 3) rfl
theorem dX8_join_155 : decode cX8_join 155 = .ok (.iconst 1, 1) := dr9 dk9_dX8_join_0_0.2.1 20 (155, .iconst 1, 1) rfl
theorem dX8_join_156 : decode cX8_join 156 = .ok (.iadd, 1) := dr9 dk9_dX8_join_0_0.2.1 21 (156, .iadd, 1) rfl
theorem dX8_join_157 : decode cX8_join 157 = .ok (.putfield 69, 3) := dr9 dk9_dX8_join_0_0.2.1 22 (157, .putfield 69, 3) rfl
theorem dX8_join_160 : decode cX8_join 160 = .ok (.return_, 1) := dr9 dk9_dX8_join_0_0.2.1 23 (160, .return_, 1) rfl
theorem dX8_join_113 : decode cX8_join 113 = .ok (.aload_n 0, 1) := dr9 dk9_dX8_join_0_0.2.2.1 0 (113, .aload_n 0, 1) rfl
theorem dX8_join_114 : decode cX8_join 114 = .ok (.getfield 46, 3) := dr9 dk9_dX8_join_0_0.2.2.1 1 (114, .getfield 46, 3) rfl
theorem dX8_join_117 : decode cX8_join 117 = .ok (.iload 4, 2) := dr9 dk9_dX8_join_0_0.2.2.1 2 (117, .iload 4, 2) rfl
theorem dX8_join_119 : decode cX8_join 119 = .ok (.iaload, 1) := dr9 dk9_dX8_join_0_0.2.2.1 3 (119, .iaload, 1) rfl
theorem dX8_join_120 : decode cX8_join 120 = .ok (.iconst (-1), 1) := dr9 dk9_dX8_join_0_0.2.2.1 4 (120, .iconst (-1), 1) rfl
theorem dX8_join_121 : decode cX8_join 121 = .ok (.if_icmp .eq 18, 3) := dr9 dk9_dX8_join_0_0.2.2.1 5 (121, .if_icmp .eq 18, 3) rfl
theorem dX8_join_124 : decode cX8_join 124 = .ok (.aload_n 0, 1) := dr9 dk9_dX8_join_0_0.2.2.1 6 (124, .aload_n 0, 1) rfl
theorem dX8_join_125 : decode cX8_join 125 = .ok (.getfield 46, 3) := dr9 dk9_dX8_join_0_0.2.2.1 7 (125, .getfield 46, 3) rfl
theorem dX8_join_128 : decode cX8_join 128 = .ok (.iload 4, 2) := dr9 dk9_dX8_join_0_0.2.2.1 8 (128, .iload 4, 2) rfl
theorem dX8_join_130 : decode cX8_join 130 = .ok (.iaload, 1) := dr9 dk9_dX8_join_0_0.2.2.1 9 (130, .iaload, 1) rfl
theorem dX8_join_131 : decode cX8_join 131 = .ok (.istore 4, 2) := dr9 dk9_dX8_join_0_0.2.2.1 10 (131, .istore 4, 2) rfl
theorem dX8_join_133 : decode cX8_join 133 = .ok (.iinc 5 1, 3) := dr9 dk9_dX8_join_0_0.2.2.1 11 (133, .iinc 5 1, 3) rfl
theorem dX8_join_136 : decode cX8_join 136 = .ok (.goto (-30), 3) := dr9 dk9_dX8_join_0_0.2.2.1 12 (136, .goto (-30), 3) rfl
theorem dX8_join_85 : decode cX8_join 85 = .ok (.aload_n 0, 1) := dr9 dk9_dX8_join_0_0.2.2.1 13 (85, .aload_n 0, 1) rfl
theorem dX8_join_86 : decode cX8_join 86 = .ok (.getfield 40, 3) := dr9 dk9_dX8_join_0_0.2.2.1 14 (86, .getfield 40, 3) rfl
theorem dX8_join_89 : decode cX8_join 89 = .ok (.iload_n 1, 1) := dr9 dk9_dX8_join_0_0.2.2.1 15 (89, .iload_n 1, 1) rfl
theorem dX8_join_90 : decode cX8_join 90 = .ok (.bipush 8, 2) := dr9 dk9_dX8_join_0_0.2.2.1 16 (90, .bipush 8, 2) rfl
theorem dX8_join_92 : decode cX8_join 92 = .ok (.imul, 1) := dr9 dk9_dX8_join_0_0.2.2.1 17 (92, .imul, 1) rfl
theorem dX8_join_93 : decode cX8_join 93 = .ok (.iload_n 2, 1) := dr9 dk9_dX8_join_0_0.2.2.1 18 (93, .iload_n 2, 1) rfl
theorem dX8_join_94 : decode cX8_join 94 = .ok (.iadd, 1) := dr9 dk9_dX8_join_0_0.2.2.1 19 (94, .iadd, 1) rfl
theorem dX8_join_95 : decode cX8_join 95 = .ok (.aload_n 0, 1) := dr9 dk9_dX8_join_0_0.2.2.1 20 (95, .aload_n 0, 1) rfl
theorem dX8_join_96 : decode cX8_join 96 = .ok (.getfield 69, 3) := dr9 dk9_dX8_join_0_0.2.2.1 21 (96, .getfield 69, 3) rfl
theorem dX8_join_99 : decode cX8_join 99 = .ok (.iastore, 1) := dr9 dk9_dX8_join_0_0.2.2.1 22 (99, .iastore, 1) rfl
theorem dX8_join_100 : decode cX8_join 100 = .ok (.goto 50, 3) := dr9 dk9_dX8_join_0_0.2.2.1 23 (100, .goto 50, 3) rfl
theorem dX8_join_12 : decode cX8_join 12 = .ok (.aload_n 0, 1) := dr9 dk9_dX8_join_0_0.2.2.2 0 (12, .aload_n 0, 1) rfl
theorem dX8_join_13 : decode cX8_join 13 = .ok (.aload_n 0, 1) := dr9 dk9_dX8_join_0_0.2.2.2 1 (13, .aload_n 0, 1) rfl
theorem dX8_join_14 : decode cX8_join 14 = .ok (.getfield 43, 3) := dr9 dk9_dX8_join_0_0.2.2.2 2 (14, .getfield 43, 3) rfl
theorem dX8_join_17 : decode cX8_join 17 = .ok (.aload_n 0, 1) := dr9 dk9_dX8_join_0_0.2.2.2 3 (17, .aload_n 0, 1) rfl
theorem dX8_join_18 : decode cX8_join 18 = .ok (.getfield 69, 3) := dr9 dk9_dX8_join_0_0.2.2.2 4 (18, .getfield 69, 3) rfl
theorem dX8_join_21 : decode cX8_join 21 = .ok (.iconst 2, 1) := dr9 dk9_dX8_join_0_0.2.2.2 5 (21, .iconst 2, 1) rfl
theorem dX8_join_22 : decode cX8_join 22 = .ok (.imul, 1) := dr9 dk9_dX8_join_0_0.2.2.2 6 (22, .imul, 1) rfl
theorem dX8_join_23 : decode cX8_join 23 = .ok (.invokestatic 83, 3) := dr9 dk9_dX8_join_0_0.2.2.2 7 (23, .invokestatic 83, 3) rfl
theorem dX8_join_26 : decode cX8_join 26 = .ok (.putfield 43, 3) := dr9 dk9_dX8_join_0_0.2.2.2 8 (26, .putfield 43, 3) rfl
theorem dX8_join_29 : decode cX8_join 29 = .ok (.aload_n 0, 1) := dr9 dk9_dX8_join_0_0.2.2.2 9 (29, .aload_n 0, 1) rfl
theorem dX8_join_30 : decode cX8_join 30 = .ok (.aload_n 0, 1) := dr9 dk9_dX8_join_0_0.2.2.2 10 (30, .aload_n 0, 1) rfl
theorem dX8_join_31 : decode cX8_join 31 = .ok (.getfield 46, 3) := dr9 dk9_dX8_join_0_0.2.2.2 11 (31, .getfield 46, 3) rfl
theorem dX8_join_34 : decode cX8_join 34 = .ok (.aload_n 0, 1) := dr9 dk9_dX8_join_0_0.2.2.2 12 (34, .aload_n 0, 1) rfl
theorem dX8_join_35 : decode cX8_join 35 = .ok (.getfield 69, 3) := dr9 dk9_dX8_join_0_0.2.2.2 13 (35, .getfield 69, 3) rfl
theorem dX8_join_38 : decode cX8_join 38 = .ok (.iconst 2, 1) := dr9 dk9_dX8_join_0_0.2.2.2 14 (38, .iconst 2, 1) rfl
theorem dX8_join_39 : decode cX8_join 39 = .ok (.imul, 1) := dr9 dk9_dX8_join_0_0.2.2.2 15 (39, .imul, 1) rfl
theorem dX8_join_40 : decode cX8_join 40 = .ok (.invokestatic 83, 3) := dr9 dk9_dX8_join_0_0.2.2.2 16 (40, .invokestatic 83, 3) rfl
theorem dX8_join_43 : decode cX8_join 43 = .ok (.putfield 46, 3) := dr9 dk9_dX8_join_0_0.2.2.2 17 (43, .putfield 46, 3) rfl
abbrev r_x_join (Z : XZ) : Room := { frames := 2, cells := zcc Z, slots := zss Z, locals := 62 }
abbrev q_x_join (D : va_G) (ks : KS) (ad : Nat → Nat) (kk : Nat → ClassId) (V : Vf) (L : Lf) (Z : XZ) (p0 : Int32) (p1 : Int32) (p2 : Int32) (A : Nat → Prop) : Array Value → State → Outcome → State → Prop := qZv D (fun (u : Vf × Lf × XZ) => rgd bX u.1 ∧ agr [(3, 15)] [30, 31, 32] V u.1 ∧ u.2.1 = L ∧ ZL Z u.2.2 ∧ (JN V u.1 Z u.2.2 (8 * Int32.toNatClampNeg p0 + Int32.toNatClampNeg p1))) (fun u => xw ad kk u.1 u.2.1 u.2.2) (fun u => xty kk u.2.2) (fun u => zcc Z - zcc u.2.2) (fun u => zss Z - zss u.2.2) A
set_option maxHeartbeats 4000000 in
set_option maxRecDepth 100000 in
theorem x_join (l : Launch) (D : va_G) (ks : KS) (sz : Nat) (ad : Nat → Nat) (kk : Nat → ClassId) (V : Vf) (L : Lf) (Z : XZ) (p0 : Int32) (p1 : Int32) (p2 : Int32) (hMV : rgd bX V) (rg_p0 : 0 ≤ p0.toInt ∧ p0.toInt ≤ 299) (rg_p1 : 0 ≤ p1.toInt ∧ p1.toInt ≤ 7) (sl : SL V Z) (lnq : LN Z.ln) (hlc : (V 3 15).toInt ≤ 250000) (hob : p0.toInt < (V 3 13).toInt)  : Met l yX8_join (Cond.code yX8_join cX8_join 6 none :: GW) (r_x_join Z) (va_Pc [.ref (ad 3), .int p0, .int p1, .int p2] (gp D ks (xw ad kk V L Z) (xty kk Z) sz)) (q_x_join D ks ad kk V L Z p0 p1 p2 (va_A (xw ad kk V L Z) sz)) (zcc Z) (zss Z) (va_A (xw ad kk V L Z) sz) := by
  refine g_met (q_x_join D ks ad kk V L Z p0 p1 p2) (by decide) (Nat.le_of_ble_eq_true rfl) ?_
  intro p e s m below meth c A ls H locs hx hb hr hml hown hg hlocks hin hnw hgk hP hK hD hS hA hl
  have hown : s.vm.findClass RX8 = some m.cls := hown
  have hl : lv_has ls 6 [(0, .ref (ad 3)), (1, .int p0), (2, .int p1), (3, .int p2)] := hl
  have hP : va_P D vwCl (xw ad kk V L Z) H := hP
  have hD : va_D A (xw ad kk V L Z) := hD
  have hK : va_K D vwCl (xty kk Z) s := hK
  have agV : agr [(3, 15)] [30, 31, 32] V V := agr.rf
  have zoZ : ZL Z Z := ZL.rf
  refine W.know (fun ka kb => ?_)
  refine W.tight (k := zcc Z - zcc Z) (n := zss Z - zss Z) (by omega) (by omega) ?_
  have r1 : 0 ≤ ((V 3 15)).toInt ∧ ((V 3 15)).toInt ≤ 262144 := hMV 3 15
  have r2 : 0 ≤ ((V 3 13)).toInt ∧ ((V 3 13)).toInt ≤ 300 := hMV 3 13
  have hll := sl.2.1
  refine lv_aload_n hx hb dX8_join_0 rfl (lv_at hl 0 rfl) ?_
  refine va_get (D := D) (ci := 8) (v := .int (V 3 15)) (fs := (xfStock ad V L Z)) (C := RX8) (T := TX8) (N := 16) hx hb hg inX8 hown hK hP 3 xgStock rfl 15 (by decide) (hg _ w394) (fun _ h9 => h9) rfl dX8_join_1 ?_
  refine lv_aload_n hx hb dX8_join_4 rfl (lv_at hl 0 rfl) ?_
  refine va_get (D := D) (ci := 8) (v := .ref Z.l1) (fs := (xfStock ad V L Z)) (C := RX8) (T := TX8) (N := 16) hx hb hg inX8 hown hK hP 3 xgStock rfl 10 (by decide) (hg _ w388) (fun _ h9 => h9) rfl dX8_join_5 ?_
  refine va_alen (D := D) (v := nI (Z.ln)) hx hb hK hP 28 21 rfl rfl rfl dX8_join_8 ?_
  refine lv_topi (fun z4 ez4 => ?_)
  have r5 : z4.toInt = ((Z.ln : Nat) : Int) := by rw [ez4]; exact nI_toInt (by omega)
  refine lv_icmp_lt (tgt := 46) hx hb dX8_join_9 (by decide) (fun c6 => ?_) (fun c6 => ?_)
  · skip
    have f7 : ((V 3 15)).toInt < z4.toInt := b_lt rfl rfl c6
    have slx := sl
    have lnx := lnq
    have hltz : (V 3 15).toInt < (Z.ln : Int) := by (first | exact om_74393bacf057 r5 f7 | omega)
    have kl := i_clamp (x := V 3 15) rfl (by (first | exact om_eafa9039069c r1.1 | omega))
    have kp0 := i_clamp (x := p0) rfl (by (first | exact om_eafa9039069c rg_p0.1 | omega))
    have kp1 := i_clamp (x := p1) rfl (by (first | exact om_eafa9039069c rg_p1.1 | omega))
    have hch := slx.2.2.1 (Int32.toNatClampNeg p0) (Int32.toNatClampNeg p1) (by omega) (by omega)
    refine lv_aload_n hx hb dX8_join_46 rfl (lv_at hl 0 rfl) ?_
    refine va_get (D := D) (ci := 8) (v := .ref Z.l1) (fs := (xfStock ad V L Z)) (C := RX8) (T := TX8) (N := 16) hx hb hg inX8 hown hK hP 3 xgStock rfl 10 (by decide) (hg _ w388) (fun _ h9 => h9) rfl dX8_join_47 ?_
    refine lv_aload_n hx hb dX8_join_50 rfl (lv_at hl 0 rfl) ?_
    refine va_get (D := D) (ci := 8) (v := .int (V 3 15)) (fs := (xfStock ad V L Z)) (C := RX8) (T := TX8) (N := 16) hx hb hg inX8 hown hK hP 3 xgStock rfl 15 (by decide) (hg _ w394) (fun _ h9 => h9) rfl dX8_join_51 ?_
    refine lv_iload_n hx hb dX8_join_54 rfl (lv_at hl 3 rfl) ?_
    refine va_iast (D := D) (i := (V 3 15)) (x := p2) hx hb hK hP hD hS 28 21 rfl rfl (i_in (a := ((V 3 15)).toInt) rfl (by omega)) dX8_join_55 (fun H locs hP hD hS => ?_)
    obtain ⟨V8, hV8⟩ : ∃ z, z = up2 V 31 (Int32.toNatClampNeg (V 3 15)) p2 := ⟨_, rfl⟩
    have ew9 : (xw ad kk V L Z).set 28 (Z.l1, .inl (Z.k1, Z.ln, .inl (upd (V 31) (Int32.toNatClampNeg (V 3 15)) p2))) = xw ad kk V8 L Z := by rw [hV8]; exact xw_ss (by decide) rfl (xb_si (by decide))
    have hP : va_P D vwCl (xw ad kk V8 L Z) H := by rw [← ew9]; exact hP
    have hD : va_D A (xw ad kk V8 L Z) := by rw [← ew9]; exact hD
    have hMV8 : rgd bX V8 := hMV.put hV8 (i_full _)
    have agV8 : agr [(3, 15)] [30, 31, 32] V V8 := agV.up hV8 rfl
    refine lv_aload_n hx hb dX8_join_56 rfl (lv_at hl 0 rfl) ?_
    refine va_get (D := D) (ci := 8) (v := .ref Z.l2) (fs := (xfStock ad V8 L Z)) (C := RX8) (T := TX8) (N := 16) hx hb hg inX8 hown hK hP 3 xgStock rfl 11 (by decide) (hg _ w389) (fun _ h9 => h9) rfl dX8_join_57 ?_
    refine lv_aload_n hx hb dX8_join_60 rfl (lv_at hl 0 rfl) ?_
    refine va_get (D := D) (ci := 8) (v := .int (V8 3 15)) (fs := (xfStock ad V8 L Z)) (C := RX8) (T := TX8) (N := 16) hx hb hg inX8 hown hK hP 3 xgStock rfl 15 (by decide) (hg _ w394) (fun _ h9 => h9) rfl dX8_join_61 ?_
    refine g_top (v := (V 3 15)) (up2_o hV8 (by decide)) ?_
    refine lv_iconst (v := (-1)) hx hb dX8_join_64 (by decide) ?_
    refine va_iast (D := D) (i := (V 3 15)) (x := (-1)) hx hb hK hP hD hS 29 22 rfl rfl (i_in (a := ((V 3 15)).toInt) rfl (by omega)) dX8_join_65 (fun H locs hP hD hS => ?_)
    obtain ⟨V10, hV10⟩ : ∃ z, z = up2 V8 32 (Int32.toNatClampNeg (V 3 15)) (-1) := ⟨_, rfl⟩
    have ew11 : (xw ad kk V8 L Z).set 29 (Z.l2, .inl (Z.k2, Z.ln, .inl (upd (V8 32) (Int32.toNatClampNeg (V 3 15)) (-1)))) = xw ad kk V10 L Z := by rw [hV10]; exact xw_ss (by decide) rfl (xb_si (by decide))
    have hP : va_P D vwCl (xw ad kk V10 L Z) H := by rw [← ew11]; exact hP
    have hD : va_D A (xw ad kk V10 L Z) := by rw [← ew11]; exact hD
    have hMV10 : rgd bX V10 := hMV8.put hV10 (show (-1) ≤ Int32.toInt (-1) ∧ Int32.toInt (-1) ≤ 262143 from by decide)
    have agV10 : agr [(3, 15)] [30, 31, 32] V V10 := agV8.up hV10 rfl
    refine lv_aload_n hx hb dX8_join_66 rfl (lv_at hl 0 rfl) ?_
    refine va_get (D := D) (ci := 8) (v := .ref (ad 27)) (fs := (xfStock ad V10 L Z)) (C := RX8) (T := TX8) (N := 16) hx hb hg inX8 hown hK hP 3 xgStock rfl 9 (by decide) (hg _ w387) (fun _ h9 => h9) rfl dX8_join_67 ?_
    refine lv_iload_n hx hb dX8_join_70 rfl (lv_at hl 1 rfl) ?_
    refine lv_bipush (v := 8) hx hb dX8_join_71 (by decide) ?_
    refine lv_imul hx hb dX8_join_73 ?_
    refine lv_topi (fun z12 ez12 => ?_)
    have hz12 : z12.toInt = p0.toInt * 8 := i_mul ez12 rfl (by decide) (by (first | exact om_d8eca449dd89 rg_p0.1 rg_p0.2 | omega))
    refine lv_iload_n hx hb dX8_join_74 rfl (lv_at hl 2 rfl) ?_
    refine lv_iadd hx hb dX8_join_75 ?_
    refine lv_topi (fun z13 ez13 => ?_)
    have hz13 : z13.toInt = z12.toInt + p1.toInt := i_add ez13 rfl rfl (by (first | exact om_582758b7b1c9 rg_p0.1 rg_p0.2 rg_p1.1 rg_p1.2 hz12 | omega))
    refine va_iald (D := D) (i := z13) hx hb hK hP 27 20 rfl rfl (i_in (a := z13.toInt) rfl (by (first | exact om_1416c74478ee rg_p0.1 rg_p0.2 rg_p1.1 rg_p1.2 hz12 hz13 | omega))) dX8_join_76 ?_
    refine g_top (v := (V 30 (Int32.toNatClampNeg z13))) ((up2_o hV10 (by decide)).trans (up2_o hV8 (by decide))) ?_
    have r14 : (-1) ≤ ((V 30 (Int32.toNatClampNeg z13))).toInt ∧ ((V 30 (Int32.toNatClampNeg z13))).toInt ≤ 262143 := hMV 30 (Int32.toNatClampNeg z13)
    refine lv_istore (lv' := [(4, .int (V 30 (Int32.toNatClampNeg z13))), (0, .ref (ad 3)), (1, .int p0), (2, .int p1), (3, .int p2)]) hx hb dX8_join_77 hl (by decide) rfl (fun ls hl => ?_)
    have kzz := i_clamp (x := z13) rfl (by (first | exact om_75abbf7b0b1b rg_p0.1 rg_p1.1 hz12 hz13 | omega))
    have hpl : Int32.toNatClampNeg z13 = 8 * Int32.toNatClampNeg p0 + Int32.toNatClampNeg p1 := by (first | exact om_19f77980e03c kp0 kp1 hz12 hz13 kzz | omega)
    have hch2 := hch
    rw [← hpl] at hch2
    refine lv_iload hx hb dX8_join_79 (lv_at hl 0 rfl) ?_
    refine lv_iconst (v := (-1)) hx hb dX8_join_81 (by decide) ?_
    refine lv_icmp_ne (tgt := 103) hx hb dX8_join_82 (by decide) (fun c15 => ?_) (fun c15 => ?_)
    · skip
      have f16 : ((V 30 (Int32.toNatClampNeg z13))).toInt ≠ (-1) := b_neq rfl (by decide) c15
      refine lv_iconst (v := 0) hx hb dX8_join_103 (by decide) ?_
      refine lv_istore (lv' := [(5, .int 0), (4, .int (V 30 (Int32.toNatClampNeg z13))), (0, .ref (ad 3)), (1, .int p0), (2, .int p1), (3, .int p2)]) hx hb dX8_join_104 hl (by decide) rfl (fun ls hl => ?_)
      have lp19 : ∀ (fulp19 : Nat) (y17 : Int32) (y18 : Int32) (H : Heap) (locs : List Loc) (ls : Array Slot), 0 ≤ y17.toInt ∧ y17.toInt ≤ 24 → 0 ≤ y18.toInt ∧ y18.toInt ≤ 262143 → y18.toInt < (V 3 15).toInt → 24 - y17.toInt < (fulp19 : Int) → va_P D vwCl (xw ad kk V10 L Z) H → va_D A (xw ad kk V10 L Z) → va_S A s.heap H locs → lv_has ls 6 [(5, .int y17), (4, .int y18), (0, .ref (ad 3)), (1, .int p0), (2, .int p1), (3, .int p2)] → W p l e (r_x_join Z) s m ([.ref (ad 3), .int p0, .int p1, .int p2] : List Value).toArray below meth c H locs (zcc Z - zcc Z) (zss Z - zss Z) (MQ below (q_x_join D ks ad kk V L Z p0 p1 p2 A) ([.ref (ad 3), .int p0, .int p1, .int p2] : List Value).toArray s (zcc Z) (zss Z) A) (F0 m 106 ls []) := by
        intro fulp19
        induction fulp19 with
        | zero =>
          intro y17 y18 H locs ls klp19_0 klp19_1 xlp19_0 hn  hP hD hS hl
          exfalso; (first | exact om_9386ef0df612 klp19_0.2 hn | omega)
        | succ fulp19 ihlp19 =>
          intro y17 y18 H locs ls klp19_0 klp19_1 xlp19_0 hn  hP hD hS hl
          refine lv_iload hx hb dX8_join_106 (lv_at hl 0 rfl) ?_
          refine lv_bipush (v := 24) hx hb dX8_join_108 (by decide) ?_
          refine lv_icmp_ge (tgt := 139) hx hb dX8_join_110 (by decide) (fun c20 => ?_) (fun c20 => ?_)
          · skip
            have f21 : 24 ≤ y17.toInt := b_le (by decide) rfl c20
            refine lv_aload_n hx hb dX8_join_139 rfl (lv_at hl 2 rfl) ?_
            refine va_get (D := D) (ci := 8) (v := .ref Z.l2) (fs := (xfStock ad V10 L Z)) (C := RX8) (T := TX8) (N := 16) hx hb hg inX8 hown hK hP 3 xgStock rfl 11 (by decide) (hg _ w389) (fun _ h9 => h9) rfl dX8_join_140 ?_
            refine lv_iload hx hb dX8_join_143 (lv_at hl 1 rfl) ?_
            refine lv_aload_n hx hb dX8_join_145 rfl (lv_at hl 2 rfl) ?_
            refine va_get (D := D) (ci := 8) (v := .int (V10 3 15)) (fs := (xfStock ad V10 L Z)) (C := RX8) (T := TX8) (N := 16) hx hb hg inX8 hown hK hP 3 xgStock rfl 15 (by decide) (hg _ w394) (fun _ h9 => h9) rfl dX8_join_146 ?_
            refine g_top (v := (V 3 15)) ((up2_o hV10 (by decide)).trans (up2_o hV8 (by decide))) ?_
            refine va_iast (D := D) (i := y18) (x := (V 3 15)) hx hb hK hP hD hS 29 22 rfl rfl (i_in (a := y18.toInt) rfl (by omega)) dX8_join_149 (fun H locs hP hD hS => ?_)
            obtain ⟨V22, hV22⟩ : ∃ z, z = up2 V10 32 (Int32.toNatClampNeg y18) (V 3 15) := ⟨_, rfl⟩
            have ew23 : (xw ad kk V10 L Z).set 29 (Z.l2, .inl (Z.k2, Z.ln, .inl (upd (V10 32) (Int32.toNatClampNeg y18) (V 3 15)))) = xw ad kk V22 L Z := by rw [hV22]; exact xw_ss (by decide) rfl (xb_si (by decide))
            have hP : va_P D vwCl (xw ad kk V22 L Z) H := by rw [← ew23]; exact hP
            have hD : va_D A (xw ad kk V22 L Z) := by rw [← ew23]; exact hD
            have hMV22 : rgd bX V22 := hMV10.put hV22 (show (-1) ≤ ((V 3 15)).toInt ∧ ((V 3 15)).toInt ≤ 262143 from by (first | exact om_ca8123c7c681 hlc klp19_1.1 xlp19_0 | omega))
            have agV22 : agr [(3, 15)] [30, 31, 32] V V22 := agV10.up hV22 rfl
            refine lv_aload_n hx hb dX8_join_150 rfl (lv_at hl 2 rfl) ?_
            refine lv_dup hx hb dX8_join_151 rfl ?_
            refine va_get (D := D) (ci := 8) (v := .int (V22 3 15)) (fs := (xfStock ad V22 L Z)) (C := RX8) (T := TX8) (N := 16) hx hb hg inX8 hown hK hP 3 xgStock rfl 15 (by decide) (hg _ w394) (fun _ h9 => h9) rfl dX8_join_152 ?_
            refine g_top (v := (V 3 15)) ((up2_o hV22 (by decide)).trans ((up2_o hV10 (by decide)).trans (up2_o hV8 (by decide)))) ?_
            refine lv_iconst (v := 1) hx hb dX8_join_155 (by decide) ?_
            refine lv_iadd hx hb dX8_join_156 ?_
            refine lv_topi (fun z24 ez24 => ?_)
            have hz24 : z24.toInt = ((V 3 15)).toInt + 1 := i_add ez24 rfl (by decide) (by (first | exact om_f92aeb5a09ea hlc klp19_1.1 xlp19_0 | omega))
            refine va_put (D := D) (ci := 8) (v := .int z24) (ty := tyX8 15) (fs := (xfStock ad V22 L Z)) (C := RX8) (T := TX8) (N := 16) hx hb hg inX8 tyX8 tyX8_ok nmX8 hown hK hP hD hS 3 xgStock rfl 15 (by decide) (hg _ w394) (fun _ h9 => h9) rfl (tyX8_ok 15 (by decide)) rfl rfl (Nat.le_of_ble_eq_true rfl) dX8_join_157 (fun H locs hP hD hS => ?_)
            obtain ⟨V25, hV25⟩ : ∃ z, z = up2 V22 3 15 z24 := ⟨_, rfl⟩
            have ew26 : (xw ad kk V22 L Z).set 3 ((ad 3), .inr (8, (xfStock ad V22 L Z).set 15 (.int z24))) = xw ad kk V25 L Z := by rw [hV25]; exact xw_ss (by decide) rfl (xb_si (by decide))
            have hP : va_P D vwCl (xw ad kk V25 L Z) H := by rw [← ew26]; exact hP
            have hD : va_D A (xw ad kk V25 L Z) := by rw [← ew26]; exact hD
            have hMV25 : rgd bX V25 := hMV22.put hV25 (show 0 ≤ z24.toInt ∧ z24.toInt ≤ 262144 from by (first | exact om_58c2777555e7 hlc klp19_1.1 xlp19_0 hz24 | omega))
            have agV25 : agr [(3, 15)] [30, 31, 32] V V25 := agV22.up hV25 rfl
            have pq27 : (V25 3 15).toInt = z24.toInt := congrArg Int32.toInt (up2_s hV25)
            have kq28 := i_clamp (x := y18) rfl (by (first | exact om_eafa9039069c klp19_1.1 | omega))
            have jn29 : JN V V25 Z Z (8 * Int32.toNatClampNeg p0 + Int32.toNatClampNeg p1) := JN.mk (l := Int32.toNatClampNeg (V 3 15)) slx lnx (by omega) (by omega) hV8 hV10 hV22 (by omega) hV25 (by omega) (Or.inr ⟨rfl, by omega, by rw [← hpl]; omega⟩)
            refine W.know (fun kr1 kr2 => ?_)
            refine W.widen (k := zcc Z) (n := zss Z) (Nat.sub_le _ _) (Nat.sub_le _ _) ?_
            exact W.vret hx hb hr (fun t ht hW => ⟨⟨(V25, L, Z), rfl, ⟨hMV25, agV25, rfl, zoZ, jn29⟩, ⟨by rw [ht]; exact hP, va_K.moved hW.alike hK, hD⟩, by rw [ht]; exact kr1, by rw [ht]; exact kr2⟩, hS.F ht⟩) hS.2.2 dX8_join_160
          · skip
            have f30 : y17.toInt < 24 := b_nle (by decide) rfl c20
            refine lv_aload_n hx hb dX8_join_113 rfl (lv_at hl 2 rfl) ?_
            refine va_get (D := D) (ci := 8) (v := .ref Z.l2) (fs := (xfStock ad V10 L Z)) (C := RX8) (T := TX8) (N := 16) hx hb hg inX8 hown hK hP 3 xgStock rfl 11 (by decide) (hg _ w389) (fun _ h9 => h9) rfl dX8_join_114 ?_
            refine lv_iload hx hb dX8_join_117 (lv_at hl 1 rfl) ?_
            refine va_iald (D := D) (i := y18) hx hb hK hP 29 22 rfl rfl (i_in (a := y18.toInt) rfl (by omega)) dX8_join_119 ?_
            have r31 : (-1) ≤ ((V10 32 (Int32.toNatClampNeg y18))).toInt ∧ ((V10 32 (Int32.toNatClampNeg y18))).toInt ≤ 262143 := hMV10 32 (Int32.toNatClampNeg y18)
            have kq32 := i_clamp (x := y18) rfl (by (first | exact om_eafa9039069c klp19_1.1 | omega))
            have hq33 : (V10 32 (Int32.toNatClampNeg y18)).toInt < (V 3 15).toInt := by have q := slx.2.2.2 (Int32.toNatClampNeg y18) (by omega); rw [up2_k hV10 (by omega), up2_o hV8 (by decide)]; omega
            refine lv_iconst (v := (-1)) hx hb dX8_join_120 (by decide) ?_
            refine lv_icmp_eq (tgt := 139) hx hb dX8_join_121 (by decide) (fun c34 => ?_) (fun c34 => ?_)
            · skip
              have f35 : ((V10 32 (Int32.toNatClampNeg y18))).toInt = (-1) := b_eq rfl (by decide) c34
              refine lv_aload_n hx hb dX8_join_139 rfl (lv_at hl 2 rfl) ?_
              refine va_get (D := D) (ci := 8) (v := .ref Z.l2) (fs := (xfStock ad V10 L Z)) (C := RX8) (T := TX8) (N := 16) hx hb hg inX8 hown hK hP 3 xgStock rfl 11 (by decide) (hg _ w389) (fun _ h9 => h9) rfl dX8_join_140 ?_
              refine lv_iload hx hb dX8_join_143 (lv_at hl 1 rfl) ?_
              refine lv_aload_n hx hb dX8_join_145 rfl (lv_at hl 2 rfl) ?_
              refine va_get (D := D) (ci := 8) (v := .int (V10 3 15)) (fs := (xfStock ad V10 L Z)) (C := RX8) (T := TX8) (N := 16) hx hb hg inX8 hown hK hP 3 xgStock rfl 15 (by decide) (hg _ w394) (fun _ h9 => h9) rfl dX8_join_146 ?_
              refine g_top (v := (V 3 15)) ((up2_o hV10 (by decide)).trans (up2_o hV8 (by decide))) ?_
              refine va_iast (D := D) (i := y18) (x := (V 3 15)) hx hb hK hP hD hS 29 22 rfl rfl (i_in (a := y18.toInt) rfl (by omega)) dX8_join_149 (fun H locs hP hD hS => ?_)
              obtain ⟨V36, hV36⟩ : ∃ z, z = up2 V10 32 (Int32.toNatClampNeg y18) (V 3 15) := ⟨_, rfl⟩
              have ew37 : (xw ad kk V10 L Z).set 29 (Z.l2, .inl (Z.k2, Z.ln, .inl (upd (V10 32) (Int32.toNatClampNeg y18) (V 3 15)))) = xw ad kk V36 L Z := by rw [hV36]; exact xw_ss (by decide) rfl (xb_si (by decide))
              have hP : va_P D vwCl (xw ad kk V36 L Z) H := by rw [← ew37]; exact hP
              have hD : va_D A (xw ad kk V36 L Z) := by rw [← ew37]; exact hD
              have hMV36 : rgd bX V36 := hMV10.put hV36 (show (-1) ≤ ((V 3 15)).toInt ∧ ((V 3 15)).toInt ≤ 262143 from by (first | exact om_ca8123c7c681 hlc klp19_1.1 xlp19_0 | omega))
              have agV36 : agr [(3, 15)] [30, 31, 32] V V36 := agV10.up hV36 rfl
              refine lv_aload_n hx hb dX8_join_150 rfl (lv_at hl 2 rfl) ?_
              refine lv_dup hx hb dX8_join_151 rfl ?_
              refine va_get (D := D) (ci := 8) (v := .int (V36 3 15)) (fs := (xfStock ad V36 L Z)) (C := RX8) (T := TX8) (N := 16) hx hb hg inX8 hown hK hP 3 xgStock rfl 15 (by decide) (hg _ w394) (fun _ h9 => h9) rfl dX8_join_152 ?_
              refine g_top (v := (V 3 15)) ((up2_o hV36 (by decide)).trans ((up2_o hV10 (by decide)).trans (up2_o hV8 (by decide)))) ?_
              refine lv_iconst (v := 1) hx hb dX8_join_155 (by decide) ?_
              refine lv_iadd hx hb dX8_join_156 ?_
              refine lv_topi (fun z38 ez38 => ?_)
              have hz38 : z38.toInt = ((V 3 15)).toInt + 1 := i_add ez38 rfl (by decide) (by (first | exact om_f92aeb5a09ea hlc klp19_1.1 xlp19_0 | omega))
              refine va_put (D := D) (ci := 8) (v := .int z38) (ty := tyX8 15) (fs := (xfStock ad V36 L Z)) (C := RX8) (T := TX8) (N := 16) hx hb hg inX8 tyX8 tyX8_ok nmX8 hown hK hP hD hS 3 xgStock rfl 15 (by decide) (hg _ w394) (fun _ h9 => h9) rfl (tyX8_ok 15 (by decide)) rfl rfl (Nat.le_of_ble_eq_true rfl) dX8_join_157 (fun H locs hP hD hS => ?_)
              obtain ⟨V39, hV39⟩ : ∃ z, z = up2 V36 3 15 z38 := ⟨_, rfl⟩
              have ew40 : (xw ad kk V36 L Z).set 3 ((ad 3), .inr (8, (xfStock ad V36 L Z).set 15 (.int z38))) = xw ad kk V39 L Z := by rw [hV39]; exact xw_ss (by decide) rfl (xb_si (by decide))
              have hP : va_P D vwCl (xw ad kk V39 L Z) H := by rw [← ew40]; exact hP
              have hD : va_D A (xw ad kk V39 L Z) := by rw [← ew40]; exact hD
              have hMV39 : rgd bX V39 := hMV36.put hV39 (show 0 ≤ z38.toInt ∧ z38.toInt ≤ 262144 from by (first | exact om_58c2777555e7 hlc klp19_1.1 xlp19_0 hz38 | omega))
              have agV39 : agr [(3, 15)] [30, 31, 32] V V39 := agV36.up hV39 rfl
              have pq41 : (V39 3 15).toInt = z38.toInt := congrArg Int32.toInt (up2_s hV39)
              have kq42 := i_clamp (x := y18) rfl (by (first | exact om_eafa9039069c klp19_1.1 | omega))
              have jn43 : JN V V39 Z Z (8 * Int32.toNatClampNeg p0 + Int32.toNatClampNeg p1) := JN.mk (l := Int32.toNatClampNeg (V 3 15)) slx lnx (by omega) (by omega) hV8 hV10 hV36 (by omega) hV39 (by omega) (Or.inr ⟨rfl, by omega, by rw [← hpl]; omega⟩)
              refine W.know (fun kr1 kr2 => ?_)
              refine W.widen (k := zcc Z) (n := zss Z) (Nat.sub_le _ _) (Nat.sub_le _ _) ?_
              exact W.vret hx hb hr (fun t ht hW => ⟨⟨(V39, L, Z), rfl, ⟨hMV39, agV39, rfl, zoZ, jn43⟩, ⟨by rw [ht]; exact hP, va_K.moved hW.alike hK, hD⟩, by rw [ht]; exact kr1, by rw [ht]; exact kr2⟩, hS.F ht⟩) hS.2.2 dX8_join_160
            · skip
              have f44 : ((V10 32 (Int32.toNatClampNeg y18))).toInt ≠ (-1) := b_neq rfl (by decide) c34
              refine lv_aload_n hx hb dX8_join_124 rfl (lv_at hl 2 rfl) ?_
              refine va_get (D := D) (ci := 8) (v := .ref Z.l2) (fs := (xfStock ad V10 L Z)) (C := RX8) (T := TX8) (N := 16) hx hb hg inX8 hown hK hP 3 xgStock rfl 11 (by decide) (hg _ w389) (fun _ h9 => h9) rfl dX8_join_125 ?_
              refine lv_iload hx hb dX8_join_128 (lv_at hl 1 rfl) ?_
              refine va_iald (D := D) (i := y18) hx hb hK hP 29 22 rfl rfl (i_in (a := y18.toInt) rfl (by omega)) dX8_join_130 ?_
              have kq45 := i_clamp (x := y18) rfl (by (first | exact om_eafa9039069c klp19_1.1 | omega))
              have hq46 : (V10 32 (Int32.toNatClampNeg y18)).toInt < (V 3 15).toInt := by have q := slx.2.2.2 (Int32.toNatClampNeg y18) (by omega); rw [up2_k hV10 (by omega), up2_o hV8 (by decide)]; omega
              refine lv_istore (lv' := [(4, .int (V10 32 (Int32.toNatClampNeg y18))), (5, .int y17), (0, .ref (ad 3)), (1, .int p0), (2, .int p1), (3, .int p2)]) hx hb dX8_join_131 hl (by decide) rfl (fun ls hl => ?_)
              obtain ⟨z47, ez47⟩ : ∃ y : Int32, y = y17 + 1 := ⟨_, rfl⟩
              have hz47 : z47.toInt = y17.toInt + 1 := i_add ez47 rfl (by decide) (by (first | exact om_bc9106cf44c9 klp19_0.1 f30 | omega))
              refine lv_iinc (v := z47) (lv' := [(5, .int z47), (4, .int (V10 32 (Int32.toNatClampNeg y18))), (0, .ref (ad 3)), (1, .int p0), (2, .int p1), (3, .int p2)]) hx hb dX8_join_133 hl (k := 1) rfl (by rw [ez47]; rfl) (by decide) rfl (fun ls hl => ?_)
              refine lv_goto (tgt := 106) hx hb dX8_join_136 (by decide) ?_
              exact ihlp19 z47 (V10 32 (Int32.toNatClampNeg y18)) H locs ls (by (first | exact om_a5349b170263 klp19_0.1 f30 hz47 | omega)) (by (first | exact om_ed38d5d51a12 hlc r31.1 f44 hq46 | omega)) (show ((V10 32 (Int32.toNatClampNeg y18))).toInt < (V 3 15).toInt from by (first | exact om_0e9116797efb hq33 | omega)) (by (first | exact om_9592d9319ffa hn hz47 | omega)) hP hD hS (lv_sub hl [0, 1, 2, 3, 4, 5] rfl)
      have r48 : Int32.toInt 0 = 0 := by decide
      exact lp19 ((24 - (Int32.toInt 0) + 1 : Int).toNat) 0 (V 30 (Int32.toNatClampNeg z13)) H locs ls (by decide) (by (first | exact om_393feb9d3e2e r14.1 r14.2 f16 | omega)) (show ((V 30 (Int32.toNatClampNeg z13))).toInt < (V 3 15).toInt from by omega) (by (first | exact om_817980d3aa47 | omega)) hP hD hS (lv_sub hl [0, 1, 2, 3, 4, 5] rfl)
    · skip
      have f49 : ((V 30 (Int32.toNatClampNeg z13))).toInt = (-1) := b_eq rfl (by decide) c15
      refine lv_aload_n hx hb dX8_join_85 rfl (lv_at hl 1 rfl) ?_
      refine va_get (D := D) (ci := 8) (v := .ref (ad 27)) (fs := (xfStock ad V10 L Z)) (C := RX8) (T := TX8) (N := 16) hx hb hg inX8 hown hK hP 3 xgStock rfl 9 (by decide) (hg _ w387) (fun _ h9 => h9) rfl dX8_join_86 ?_
      refine lv_iload_n hx hb dX8_join_89 rfl (lv_at hl 2 rfl) ?_
      refine lv_bipush (v := 8) hx hb dX8_join_90 (by decide) ?_
      refine lv_imul hx hb dX8_join_92 ?_
      refine lv_topi (fun z50 ez50 => ?_)
      have hz50 : z50.toInt = p0.toInt * 8 := i_mul ez50 rfl (by decide) (by (first | exact om_d8eca449dd89 rg_p0.1 rg_p0.2 | omega))
      refine lv_iload_n hx hb dX8_join_93 rfl (lv_at hl 3 rfl) ?_
      refine lv_iadd hx hb dX8_join_94 ?_
      refine lv_topi (fun z51 ez51 => ?_)
      have hz51 : z51.toInt = z50.toInt + p1.toInt := i_add ez51 rfl rfl (by (first | exact om_582758b7b1c9 rg_p0.1 rg_p0.2 rg_p1.1 rg_p1.2 hz50 | omega))
      refine lv_aload_n hx hb dX8_join_95 rfl (lv_at hl 1 rfl) ?_
      refine va_get (D := D) (ci := 8) (v := .int (V10 3 15)) (fs := (xfStock ad V10 L Z)) (C := RX8) (T := TX8) (N := 16) hx hb hg inX8 hown hK hP 3 xgStock rfl 15 (by decide) (hg _ w394) (fun _ h9 => h9) rfl dX8_join_96 ?_
      refine g_top (v := (V 3 15)) ((up2_o hV10 (by decide)).trans (up2_o hV8 (by decide))) ?_
      refine va_iast (D := D) (i := z51) (x := (V 3 15)) hx hb hK hP hD hS 27 20 rfl rfl (i_in (a := z51.toInt) rfl (by (first | exact om_1416c74478ee rg_p0.1 rg_p0.2 rg_p1.1 rg_p1.2 hz50 hz51 | omega))) dX8_join_99 (fun H locs hP hD hS => ?_)
      obtain ⟨V52, hV52⟩ : ∃ z, z = up2 V10 30 (Int32.toNatClampNeg z51) (V 3 15) := ⟨_, rfl⟩
      have ew53 : (xw ad kk V10 L Z).set 27 ((ad 27), .inl ((kk 27), 2400, .inl (upd (V10 30) (Int32.toNatClampNeg z51) (V 3 15)))) = xw ad kk V52 L Z := by rw [hV52]; exact xw_ss (by decide) rfl (xb_si (by decide))
      have hP : va_P D vwCl (xw ad kk V52 L Z) H := by rw [← ew53]; exact hP
      have hD : va_D A (xw ad kk V52 L Z) := by rw [← ew53]; exact hD
      have hMV52 : rgd bX V52 := hMV10.put hV52 (show (-1) ≤ ((V 3 15)).toInt ∧ ((V 3 15)).toInt ≤ 262143 from by (first | exact om_d572aa9568fd hlc r1.1 | omega))
      have agV52 : agr [(3, 15)] [30, 31, 32] V V52 := agV10.up hV52 rfl
      refine lv_goto (tgt := 150) hx hb dX8_join_100 (by decide) ?_
      refine lv_aload_n hx hb dX8_join_150 rfl (lv_at hl 1 rfl) ?_
      refine lv_dup hx hb dX8_join_151 rfl ?_
      refine va_get (D := D) (ci := 8) (v := .int (V52 3 15)) (fs := (xfStock ad V52 L Z)) (C := RX8) (T := TX8) (N := 16) hx hb hg inX8 hown hK hP 3 xgStock rfl 15 (by decide) (hg _ w394) (fun _ h9 => h9) rfl dX8_join_152 ?_
      refine g_top (v := (V 3 15)) ((up2_o hV52 (by decide)).trans ((up2_o hV10 (by decide)).trans (up2_o hV8 (by decide)))) ?_
      refine lv_iconst (v := 1) hx hb dX8_join_155 (by decide) ?_
      refine lv_iadd hx hb dX8_join_156 ?_
      refine lv_topi (fun z54 ez54 => ?_)
      have hz54 : z54.toInt = ((V 3 15)).toInt + 1 := i_add ez54 rfl (by decide) (by (first | exact om_63516cd27ca0 hlc r1.1 | omega))
      refine va_put (D := D) (ci := 8) (v := .int z54) (ty := tyX8 15) (fs := (xfStock ad V52 L Z)) (C := RX8) (T := TX8) (N := 16) hx hb hg inX8 tyX8 tyX8_ok nmX8 hown hK hP hD hS 3 xgStock rfl 15 (by decide) (hg _ w394) (fun _ h9 => h9) rfl (tyX8_ok 15 (by decide)) rfl rfl (Nat.le_of_ble_eq_true rfl) dX8_join_157 (fun H locs hP hD hS => ?_)
      obtain ⟨V55, hV55⟩ : ∃ z, z = up2 V52 3 15 z54 := ⟨_, rfl⟩
      have ew56 : (xw ad kk V52 L Z).set 3 ((ad 3), .inr (8, (xfStock ad V52 L Z).set 15 (.int z54))) = xw ad kk V55 L Z := by rw [hV55]; exact xw_ss (by decide) rfl (xb_si (by decide))
      have hP : va_P D vwCl (xw ad kk V55 L Z) H := by rw [← ew56]; exact hP
      have hD : va_D A (xw ad kk V55 L Z) := by rw [← ew56]; exact hD
      have hMV55 : rgd bX V55 := hMV52.put hV55 (show 0 ≤ z54.toInt ∧ z54.toInt ≤ 262144 from by (first | exact om_cb7b7fc8349b hlc r1.1 hz54 | omega))
      have agV55 : agr [(3, 15)] [30, 31, 32] V V55 := agV52.up hV55 rfl
      have pq57 : (V55 3 15).toInt = z54.toInt := congrArg Int32.toInt (up2_s hV55)
      have kq58 := i_clamp (x := z51) rfl (by (first | exact om_75abbf7b0b1b rg_p0.1 rg_p1.1 hz50 hz51 | omega))
      have jn59 : JN V V55 Z Z (8 * Int32.toNatClampNeg p0 + Int32.toNatClampNeg p1) := JN.mk (l := Int32.toNatClampNeg (V 3 15)) slx lnx (by omega) (by omega) hV8 hV10 hV52 (by omega) hV55 (by omega) (Or.inl ⟨rfl, by omega⟩)
      refine W.know (fun kr1 kr2 => ?_)
      refine W.widen (k := zcc Z) (n := zss Z) (Nat.sub_le _ _) (Nat.sub_le _ _) ?_
      exact W.vret hx hb hr (fun t ht hW => ⟨⟨(V55, L, Z), rfl, ⟨hMV55, agV55, rfl, zoZ, jn59⟩, ⟨by rw [ht]; exact hP, va_K.moved hW.alike hK, hD⟩, by rw [ht]; exact kr1, by rw [ht]; exact kr2⟩, hS.F ht⟩) hS.2.2 dX8_join_160
  · skip
    have f60 : z4.toInt ≤ ((V 3 15)).toInt := b_nlt rfl rfl c6
    refine lv_aload_n hx hb dX8_join_12 rfl (lv_at hl 0 rfl) ?_
    refine lv_aload_n hx hb dX8_join_13 rfl (lv_at hl 0 rfl) ?_
    refine va_get (D := D) (ci := 8) (v := .ref Z.l1) (fs := (xfStock ad V L Z)) (C := RX8) (T := TX8) (N := 16) hx hb hg inX8 hown hK hP 3 xgStock rfl 10 (by decide) (hg _ w388) (fun _ h9 => h9) rfl dX8_join_14 ?_
    refine lv_aload_n hx hb dX8_join_17 rfl (lv_at hl 0 rfl) ?_
    refine va_get (D := D) (ci := 8) (v := .int (V 3 15)) (fs := (xfStock ad V L Z)) (C := RX8) (T := TX8) (N := 16) hx hb hg inX8 hown hK hP 3 xgStock rfl 15 (by decide) (hg _ w394) (fun _ h9 => h9) rfl dX8_join_18 ?_
    refine lv_iconst (v := 2) hx hb dX8_join_21 (by decide) ?_
    refine lv_imul hx hb dX8_join_22 ?_
    refine lv_topi (fun z61 ez61 => ?_)
    have hz61 : z61.toInt = ((V 3 15)).toInt * 2 := i_mul ez61 rfl (by decide) (by (first | exact om_58a7a3048726 hlc r1.1 | omega))
    have hlnl : (V 3 15).toInt = (Z.ln : Int) := by have := sl.1; omega
    have hg0 := zc_grow (Z := Z) (q1 := 0) (q2 := 0) (c1 := Z.k1) (c2 := Z.k2) lnq (by omega)
    refine gZ_ref (gA_runS (As := [.ref Z.l1, .int z61]) (rest := [.ref (ad 3)]) hx hb hml hown hg hP hD hK hS hA hnw hgk (c_copyOf l D ks H.size (xw ad kk V L Z) (xty kk Z) 28 21 Z.l1 Z.k1 Z.ln (2 * Z.ln) (V 31) z61 rfl rfl (by (first | exact om_7ceae82653b4 hz61 hlnl | omega)) (by (first | exact om_74037c5033f3 hg0.2.2.2.1 | omega)) (by (first | exact om_5b649b25cd44 hg0.2.2.2.2 | omega))) w1356 w1357 w165 w1358 hdS_yJ7_copyOf_59c91 ⟨Nat.le_of_ble_eq_true rfl, Nat.le_of_ble_eq_true rfl⟩ rfl hl.1 rfl (Nat.le_of_ble_eq_true rfl) dX8_join_23 ⟨(by show zcc Z - zcc Z + 1 ≤ zcc Z; omega), (by show zss Z - zss Z + 2 * Z.ln ≤ zss Z; omega)⟩) hD hS hA (fun u1 H locs _ hP hD hK hS _ _ => ?_)
    obtain ⟨q1, c1⟩ := u1
    have hP : va_P D vwCl (xw ad kk V L Z ++ [((q1, .inl (c1, 2 * Z.ln, .inl (va_cpy (V 31) (fun _ => 0) 0 0 Z.ln))) : Nat × va_E)]) H := hP
    have hD : va_D A (xw ad kk V L Z ++ [((q1, .inl (c1, 2 * Z.ln, .inl (va_cpy (V 31) (fun _ => 0) 0 0 Z.ln))) : Nat × va_E)]) := hD
    have hK : va_K D vwCl (xty kk Z ++ [(c1, .int)]) s := hK
    refine va_put (D := D) (ci := 8) (v := .ref q1) (ty := tyX8 10) (fs := (xfStock ad V L Z)) (C := RX8) (T := TX8) (N := 16) hx hb hg inX8 tyX8 tyX8_ok nmX8 hown hK hP hD hS 3 rfl rfl 10 (by decide) (hg _ w388) (fun _ h9 => h9) rfl (tyX8_ok 10 (by decide)) rfl rfl (Nat.le_of_ble_eq_true rfl) dX8_join_26 (fun H locs hP hD hS => ?_)
    have hP : va_P D vwCl ((xw ad kk V L Z ++ [((q1, .inl (c1, 2 * Z.ln, .inl (va_cpy (V 31) (fun _ => 0) 0 0 Z.ln))) : Nat × va_E)]).set 3 ((ad 3, .inr (8, (xfStock ad V L Z).set 10 (.ref q1))) : Nat × va_E)) H := hP
    have hD : va_D A ((xw ad kk V L Z ++ [((q1, .inl (c1, 2 * Z.ln, .inl (va_cpy (V 31) (fun _ => 0) 0 0 Z.ln))) : Nat × va_E)]).set 3 ((ad 3, .inr (8, (xfStock ad V L Z).set 10 (.ref q1))) : Nat × va_E)) := hD
    refine lv_aload_n hx hb dX8_join_29 rfl (lv_at hl 0 rfl) ?_
    refine lv_aload_n hx hb dX8_join_30 rfl (lv_at hl 0 rfl) ?_
    refine va_get (D := D) (ci := 8) (v := .ref Z.l2) (fs := ((xfStock ad V L Z).set 10 (.ref q1))) (C := RX8) (T := TX8) (N := 16) hx hb hg inX8 hown hK hP 3 rfl rfl 11 (by decide) (hg _ w389) (fun _ h9 => h9) rfl dX8_join_31 ?_
    refine lv_aload_n hx hb dX8_join_34 rfl (lv_at hl 0 rfl) ?_
    refine va_get (D := D) (ci := 8) (v := .int (V 3 15)) (fs := ((xfStock ad V L Z).set 10 (.ref q1))) (C := RX8) (T := TX8) (N := 16) hx hb hg inX8 hown hK hP 3 rfl rfl 15 (by decide) (hg _ w394) (fun _ h9 => h9) rfl dX8_join_35 ?_
    refine lv_iconst (v := 2) hx hb dX8_join_38 (by decide) ?_
    refine lv_imul hx hb dX8_join_39 ?_
    refine lv_topi (fun zj ezj => ?_)
    have hzj : zj.toInt = (V 3 15).toInt * 2 := i_mul ezj rfl (by decide) (by (first | exact om_58a7a3048726 hlc r1.1 | omega))
    refine gZ_ref (gA_runS (As := [.ref Z.l2, .int zj]) (rest := [.ref (ad 3)]) hx hb hml hown hg hP hD hK hS hA hnw hgk (c_copyOf l D ks H.size ((xw ad kk V L Z ++ [((q1, .inl (c1, 2 * Z.ln, .inl (va_cpy (V 31) (fun _ => 0) 0 0 Z.ln))) : Nat × va_E)]).set 3 ((ad 3, .inr (8, (xfStock ad V L Z).set 10 (.ref q1))) : Nat × va_E)) (xty kk Z ++ [(c1, .int)]) 29 22 Z.l2 Z.k2 Z.ln (2 * Z.ln) (V 32) zj rfl rfl (by (first | exact om_58b2497b5a91 hlnl hzj | omega)) (by (first | exact om_74037c5033f3 hg0.2.2.2.1 | omega)) (by (first | exact om_5b649b25cd44 hg0.2.2.2.2 | omega))) w1356 w1357 w165 w1358 hdS_yJ7_copyOf_59c91 ⟨Nat.le_of_ble_eq_true rfl, Nat.le_of_ble_eq_true rfl⟩ rfl hl.1 rfl (Nat.le_of_ble_eq_true rfl) dX8_join_40 ⟨(by show zcc Z - zcc Z + 1 + 1 ≤ zcc Z; omega), (by show zss Z - zss Z + 2 * Z.ln + 2 * Z.ln ≤ zss Z; omega)⟩) hD hS hA (fun u2 H locs _ hP hD hK hS _ _ => ?_)
    obtain ⟨q2, c2⟩ := u2
    have hP : va_P D vwCl ((xw ad kk V L Z ++ [((q1, .inl (c1, 2 * Z.ln, .inl (va_cpy (V 31) (fun _ => 0) 0 0 Z.ln))) : Nat × va_E)]).set 3 ((ad 3, .inr (8, (xfStock ad V L Z).set 10 (.ref q1))) : Nat × va_E) ++ [((q2, .inl (c2, 2 * Z.ln, .inl (va_cpy (V 32) (fun _ => 0) 0 0 Z.ln))) : Nat × va_E)]) H := hP
    have hD : va_D A ((xw ad kk V L Z ++ [((q1, .inl (c1, 2 * Z.ln, .inl (va_cpy (V 31) (fun _ => 0) 0 0 Z.ln))) : Nat × va_E)]).set 3 ((ad 3, .inr (8, (xfStock ad V L Z).set 10 (.ref q1))) : Nat × va_E) ++ [((q2, .inl (c2, 2 * Z.ln, .inl (va_cpy (V 32) (fun _ => 0) 0 0 Z.ln))) : Nat × va_E)]) := hD
    have hK : va_K D vwCl ((xty kk Z ++ [(c1, .int)]) ++ [(c2, .int)]) s := hK
    refine va_put (D := D) (ci := 8) (v := .ref q2) (ty := tyX8 11) (fs := ((xfStock ad V L Z).set 10 (.ref q1))) (C := RX8) (T := TX8) (N := 16) hx hb hg inX8 tyX8 tyX8_ok nmX8 hown hK hP hD hS 3 rfl rfl 11 (by decide) (hg _ w389) (fun _ h9 => h9) rfl (tyX8_ok 11 (by decide)) rfl rfl (Nat.le_of_ble_eq_true rfl) dX8_join_43 (fun H locs hP hD hS => ?_)
    have hP : va_P D vwCl (((xw ad kk V L Z ++ [((q1, .inl (c1, 2 * Z.ln, .inl (va_cpy (V 31) (fun _ => 0) 0 0 Z.ln))) : Nat × va_E)]).set 3 ((ad 3, .inr (8, (xfStock ad V L Z).set 10 (.ref q1))) : Nat × va_E) ++ [((q2, .inl (c2, 2 * Z.ln, .inl (va_cpy (V 32) (fun _ => 0) 0 0 Z.ln))) : Nat × va_E)]).set 3 ((ad 3, .inr (8, ((xfStock ad V L Z).set 10 (.ref q1)).set 11 (.ref q2))) : Nat × va_E)) H := hP
    have hD : va_D A (((xw ad kk V L Z ++ [((q1, .inl (c1, 2 * Z.ln, .inl (va_cpy (V 31) (fun _ => 0) 0 0 Z.ln))) : Nat × va_E)]).set 3 ((ad 3, .inr (8, (xfStock ad V L Z).set 10 (.ref q1))) : Nat × va_E) ++ [((q2, .inl (c2, 2 * Z.ln, .inl (va_cpy (V 32) (fun _ => 0) 0 0 Z.ln))) : Nat × va_E)]).set 3 ((ad 3, .inr (8, ((xfStock ad V L Z).set 10 (.ref q1)).set 11 (.ref q2))) : Nat × va_E)) := hD
    obtain ⟨Z63, hZ63⟩ : ∃ z, z = Z.grow q1 q2 c1 c2 := ⟨_, rfl⟩
    obtain ⟨V62, hV62⟩ : ∃ z, z = lnz V Z.ln := ⟨_, rfl⟩
    have hP : va_P D vwCl (xw ad kk V62 L Z63) H := by rw [hZ63, hV62, xw_lnz]; exact grow_P (by rw [xw_len]; omega) hP
    have hD : va_D A (xw ad kk V62 L Z63) := by rw [hZ63, hV62, xw_lnz]; exact grow_D (by rw [xw_len]; omega) hD
    have hK : va_K D vwCl (xty kk Z63) s := by rw [hZ63, xt_lnz]; exact grow_K (by rw [xt_len]; decide) hK
    have hMV62 : rgd bX V62 := by rw [hV62]; exact rgd_lnz hMV
    have ajV62 : agr [] [31, 32] V V62 := by rw [hV62]; exact lnz_ag
    have agV62 : agr [(3, 15)] [30, 31, 32] V V62 := agV.tr ajV62 (by decide) (by decide)
    have zgr := zc_grow (Z := Z) (q1 := q1) (q2 := q2) (c1 := c1) (c2 := c2) lnq (by omega)
    have zcZ63 : zcc Z63 + 2 ≤ zcc Z := by rw [hZ63]; exact zgr.1
    have zsZ63 : zss Z63 + 4 * Z.ln = zss Z := by rw [hZ63]; exact zgr.2.1
    have zoZ63 : ZL Z Z63 := by rw [hZ63]; exact ZL.grow lnq (by omega)
    have zkZ63 : Z63.nf = Z.nf := by rw [hZ63]; rfl
    have zgZ63 : Z63.ln = 2 * Z.ln := by rw [hZ63]; rfl
    have slx : SL V62 Z63 := by rw [hV62, hZ63]; exact sl.grow (by omega)
    have lnx : LN Z63.ln := by rw [zgZ63]; exact zgr.2.2.1
    refine W.know (fun kx1 kx2 => ?_)
    have kx1 : H.size ≤ s.heap.size + (zcc Z - zcc Z + 1 + 1) := kx1
    have kx2 : tot H ≤ tot s.heap + (zss Z - zss Z + 2 * Z.ln + 2 * Z.ln) := kx2
    refine W.tight (k := zcc Z - zcc Z63) (n := zss Z - zss Z63) (by omega) (by omega) ?_
    have pq64 : (V62 3 15).toInt = ((V 3 15)).toInt := congrArg Int32.toInt (ajV62 3 15 rfl)
    have pq65 : (V62 3 13).toInt = ((V 3 13)).toInt := congrArg Int32.toInt (ajV62 3 13 rfl)
    have hltz : (V 3 15).toInt < (Z63.ln : Int) := by (first | exact om_b744e8be1b05 hlnl hg0.2.2.2.1 zgZ63 | omega)
    have kl := i_clamp (x := V 3 15) rfl (by (first | exact om_3de61939a92f r5 f60 zgZ63 hltz | omega))
    have kp0 := i_clamp (x := p0) rfl (by (first | exact om_eafa9039069c rg_p0.1 | omega))
    have kp1 := i_clamp (x := p1) rfl (by (first | exact om_eafa9039069c rg_p1.1 | omega))
    have hch := slx.2.2.1 (Int32.toNatClampNeg p0) (Int32.toNatClampNeg p1) (by omega) (by omega)
    refine lv_aload_n hx hb dX8_join_46 rfl (lv_at hl 0 rfl) ?_
    refine va_get (D := D) (ci := 8) (v := .ref Z63.l1) (fs := (xfStock ad V62 L Z63)) (C := RX8) (T := TX8) (N := 16) hx hb hg inX8 hown hK hP 3 xgStock rfl 10 (by decide) (hg _ w388) (fun _ h9 => h9) rfl dX8_join_47 ?_
    refine lv_aload_n hx hb dX8_join_50 rfl (lv_at hl 0 rfl) ?_
    refine va_get (D := D) (ci := 8) (v := .int (V62 3 15)) (fs := (xfStock ad V62 L Z63)) (C := RX8) (T := TX8) (N := 16) hx hb hg inX8 hown hK hP 3 xgStock rfl 15 (by decide) (hg _ w394) (fun _ h9 => h9) rfl dX8_join_51 ?_
    refine g_top (v := (V 3 15)) (ajV62 3 15 rfl) ?_
    refine lv_iload_n hx hb dX8_join_54 rfl (lv_at hl 3 rfl) ?_
    refine va_iast (D := D) (i := (V 3 15)) (x := p2) hx hb hK hP hD hS 28 21 rfl rfl (i_in (a := ((V 3 15)).toInt) rfl (by omega)) dX8_join_55 (fun H locs hP hD hS => ?_)
    obtain ⟨V66, hV66⟩ : ∃ z, z = up2 V62 31 (Int32.toNatClampNeg (V 3 15)) p2 := ⟨_, rfl⟩
    have ew67 : (xw ad kk V62 L Z63).set 28 (Z63.l1, .inl (Z63.k1, Z63.ln, .inl (upd (V62 31) (Int32.toNatClampNeg (V 3 15)) p2))) = xw ad kk V66 L Z63 := by rw [hV66]; exact xw_ss (by decide) rfl (xb_si (by decide))
    have hP : va_P D vwCl (xw ad kk V66 L Z63) H := by rw [← ew67]; exact hP
    have hD : va_D A (xw ad kk V66 L Z63) := by rw [← ew67]; exact hD
    have hMV66 : rgd bX V66 := hMV62.put hV66 (i_full _)
    have agV66 : agr [(3, 15)] [30, 31, 32] V V66 := agV62.up hV66 rfl
    refine lv_aload_n hx hb dX8_join_56 rfl (lv_at hl 0 rfl) ?_
    refine va_get (D := D) (ci := 8) (v := .ref Z63.l2) (fs := (xfStock ad V66 L Z63)) (C := RX8) (T := TX8) (N := 16) hx hb hg inX8 hown hK hP 3 xgStock rfl 11 (by decide) (hg _ w389) (fun _ h9 => h9) rfl dX8_join_57 ?_
    refine lv_aload_n hx hb dX8_join_60 rfl (lv_at hl 0 rfl) ?_
    refine va_get (D := D) (ci := 8) (v := .int (V66 3 15)) (fs := (xfStock ad V66 L Z63)) (C := RX8) (T := TX8) (N := 16) hx hb hg inX8 hown hK hP 3 xgStock rfl 15 (by decide) (hg _ w394) (fun _ h9 => h9) rfl dX8_join_61 ?_
    refine g_top (v := (V 3 15)) ((up2_o hV66 (by decide)).trans (ajV62 3 15 rfl)) ?_
    refine lv_iconst (v := (-1)) hx hb dX8_join_64 (by decide) ?_
    refine va_iast (D := D) (i := (V 3 15)) (x := (-1)) hx hb hK hP hD hS 29 22 rfl rfl (i_in (a := ((V 3 15)).toInt) rfl (by omega)) dX8_join_65 (fun H locs hP hD hS => ?_)
    obtain ⟨V68, hV68⟩ : ∃ z, z = up2 V66 32 (Int32.toNatClampNeg (V 3 15)) (-1) := ⟨_, rfl⟩
    have ew69 : (xw ad kk V66 L Z63).set 29 (Z63.l2, .inl (Z63.k2, Z63.ln, .inl (upd (V66 32) (Int32.toNatClampNeg (V 3 15)) (-1)))) = xw ad kk V68 L Z63 := by rw [hV68]; exact xw_ss (by decide) rfl (xb_si (by decide))
    have hP : va_P D vwCl (xw ad kk V68 L Z63) H := by rw [← ew69]; exact hP
    have hD : va_D A (xw ad kk V68 L Z63) := by rw [← ew69]; exact hD
    have hMV68 : rgd bX V68 := hMV66.put hV68 (show (-1) ≤ Int32.toInt (-1) ∧ Int32.toInt (-1) ≤ 262143 from by decide)
    have agV68 : agr [(3, 15)] [30, 31, 32] V V68 := agV66.up hV68 rfl
    refine lv_aload_n hx hb dX8_join_66 rfl (lv_at hl 0 rfl) ?_
    refine va_get (D := D) (ci := 8) (v := .ref (ad 27)) (fs := (xfStock ad V68 L Z63)) (C := RX8) (T := TX8) (N := 16) hx hb hg inX8 hown hK hP 3 xgStock rfl 9 (by decide) (hg _ w387) (fun _ h9 => h9) rfl dX8_join_67 ?_
    refine lv_iload_n hx hb dX8_join_70 rfl (lv_at hl 1 rfl) ?_
    refine lv_bipush (v := 8) hx hb dX8_join_71 (by decide) ?_
    refine lv_imul hx hb dX8_join_73 ?_
    refine lv_topi (fun z70 ez70 => ?_)
    have hz70 : z70.toInt = p0.toInt * 8 := i_mul ez70 rfl (by decide) (by (first | exact om_d8eca449dd89 rg_p0.1 rg_p0.2 | omega))
    refine lv_iload_n hx hb dX8_join_74 rfl (lv_at hl 2 rfl) ?_
    refine lv_iadd hx hb dX8_join_75 ?_
    refine lv_topi (fun z71 ez71 => ?_)
    have hz71 : z71.toInt = z70.toInt + p1.toInt := i_add ez71 rfl rfl (by (first | exact om_582758b7b1c9 rg_p0.1 rg_p0.2 rg_p1.1 rg_p1.2 hz70 | omega))
    refine va_iald (D := D) (i := z71) hx hb hK hP 27 20 rfl rfl (i_in (a := z71.toInt) rfl (by (first | exact om_1416c74478ee rg_p0.1 rg_p0.2 rg_p1.1 rg_p1.2 hz70 hz71 | omega))) dX8_join_76 ?_
    refine g_top (v := (V 30 (Int32.toNatClampNeg z71))) ((up2_o hV68 (by decide)).trans ((up2_o hV66 (by decide)).trans (ajV62 30 (Int32.toNatClampNeg z71) rfl))) ?_
    have r72 : (-1) ≤ ((V 30 (Int32.toNatClampNeg z71))).toInt ∧ ((V 30 (Int32.toNatClampNeg z71))).toInt ≤ 262143 := hMV 30 (Int32.toNatClampNeg z71)
    refine lv_istore (lv' := [(4, .int (V 30 (Int32.toNatClampNeg z71))), (0, .ref (ad 3)), (1, .int p0), (2, .int p1), (3, .int p2)]) hx hb dX8_join_77 hl (by decide) rfl (fun ls hl => ?_)
    have kzz := i_clamp (x := z71) rfl (by (first | exact om_75abbf7b0b1b rg_p0.1 rg_p1.1 hz70 hz71 | omega))
    have hpl : Int32.toNatClampNeg z71 = 8 * Int32.toNatClampNeg p0 + Int32.toNatClampNeg p1 := by (first | exact om_19f77980e03c kp0 kp1 hz70 hz71 kzz | omega)
    have hch2 := hch
    rw [← hpl] at hch2
    have pq73 : (V62 30 (Int32.toNatClampNeg z71)).toInt = ((V 30 (Int32.toNatClampNeg z71))).toInt := congrArg Int32.toInt (ajV62 30 (Int32.toNatClampNeg z71) rfl)
    refine lv_iload hx hb dX8_join_79 (lv_at hl 0 rfl) ?_
    refine lv_iconst (v := (-1)) hx hb dX8_join_81 (by decide) ?_
    refine lv_icmp_ne (tgt := 103) hx hb dX8_join_82 (by decide) (fun c74 => ?_) (fun c74 => ?_)
    · skip
      have f75 : ((V 30 (Int32.toNatClampNeg z71))).toInt ≠ (-1) := b_neq rfl (by decide) c74
      refine lv_iconst (v := 0) hx hb dX8_join_103 (by decide) ?_
      refine lv_istore (lv' := [(5, .int 0), (4, .int (V 30 (Int32.toNatClampNeg z71))), (0, .ref (ad 3)), (1, .int p0), (2, .int p1), (3, .int p2)]) hx hb dX8_join_104 hl (by decide) rfl (fun ls hl => ?_)
      have lp78 : ∀ (fulp78 : Nat) (y76 : Int32) (y77 : Int32) (H : Heap) (locs : List Loc) (ls : Array Slot), 0 ≤ y76.toInt ∧ y76.toInt ≤ 24 → 0 ≤ y77.toInt ∧ y77.toInt ≤ 262143 → y77.toInt < (V 3 15).toInt → 24 - y76.toInt < (fulp78 : Int) → va_P D vwCl (xw ad kk V68 L Z63) H → va_D A (xw ad kk V68 L Z63) → va_S A s.heap H locs → lv_has ls 6 [(5, .int y76), (4, .int y77), (0, .ref (ad 3)), (1, .int p0), (2, .int p1), (3, .int p2)] → W p l e (r_x_join Z) s m ([.ref (ad 3), .int p0, .int p1, .int p2] : List Value).toArray below meth c H locs (zcc Z - zcc Z63) (zss Z - zss Z63) (MQ below (q_x_join D ks ad kk V L Z p0 p1 p2 A) ([.ref (ad 3), .int p0, .int p1, .int p2] : List Value).toArray s (zcc Z) (zss Z) A) (F0 m 106 ls []) := by
        intro fulp78
        induction fulp78 with
        | zero =>
          intro y76 y77 H locs ls klp78_0 klp78_1 xlp78_0 hn  hP hD hS hl
          exfalso; (first | exact om_9386ef0df612 klp78_0.2 hn | omega)
        | succ fulp78 ihlp78 =>
          intro y76 y77 H locs ls klp78_0 klp78_1 xlp78_0 hn  hP hD hS hl
          refine lv_iload hx hb dX8_join_106 (lv_at hl 0 rfl) ?_
          refine lv_bipush (v := 24) hx hb dX8_join_108 (by decide) ?_
          refine lv_icmp_ge (tgt := 139) hx hb dX8_join_110 (by decide) (fun c79 => ?_) (fun c79 => ?_)
          · skip
            have f80 : 24 ≤ y76.toInt := b_le (by decide) rfl c79
            refine lv_aload_n hx hb dX8_join_139 rfl (lv_at hl 2 rfl) ?_
            refine va_get (D := D) (ci := 8) (v := .ref Z63.l2) (fs := (xfStock ad V68 L Z63)) (C := RX8) (T := TX8) (N := 16) hx hb hg inX8 hown hK hP 3 xgStock rfl 11 (by decide) (hg _ w389) (fun _ h9 => h9) rfl dX8_join_140 ?_
            refine lv_iload hx hb dX8_join_143 (lv_at hl 1 rfl) ?_
            refine lv_aload_n hx hb dX8_join_145 rfl (lv_at hl 2 rfl) ?_
            refine va_get (D := D) (ci := 8) (v := .int (V68 3 15)) (fs := (xfStock ad V68 L Z63)) (C := RX8) (T := TX8) (N := 16) hx hb hg inX8 hown hK hP 3 xgStock rfl 15 (by decide) (hg _ w394) (fun _ h9 => h9) rfl dX8_join_146 ?_
            refine g_top (v := (V 3 15)) ((up2_o hV68 (by decide)).trans ((up2_o hV66 (by decide)).trans (ajV62 3 15 rfl))) ?_
            refine va_iast (D := D) (i := y77) (x := (V 3 15)) hx hb hK hP hD hS 29 22 rfl rfl (i_in (a := y77.toInt) rfl (by omega)) dX8_join_149 (fun H locs hP hD hS => ?_)
            obtain ⟨V81, hV81⟩ : ∃ z, z = up2 V68 32 (Int32.toNatClampNeg y77) (V 3 15) := ⟨_, rfl⟩
            have ew82 : (xw ad kk V68 L Z63).set 29 (Z63.l2, .inl (Z63.k2, Z63.ln, .inl (upd (V68 32) (Int32.toNatClampNeg y77) (V 3 15)))) = xw ad kk V81 L Z63 := by rw [hV81]; exact xw_ss (by decide) rfl (xb_si (by decide))
            have hP : va_P D vwCl (xw ad kk V81 L Z63) H := by rw [← ew82]; exact hP
            have hD : va_D A (xw ad kk V81 L Z63) := by rw [← ew82]; exact hD
            have hMV81 : rgd bX V81 := hMV68.put hV81 (show (-1) ≤ ((V 3 15)).toInt ∧ ((V 3 15)).toInt ≤ 262143 from by (first | exact om_ca8123c7c681 hlc klp78_1.1 xlp78_0 | omega))
            have agV81 : agr [(3, 15)] [30, 31, 32] V V81 := agV68.up hV81 rfl
            refine lv_aload_n hx hb dX8_join_150 rfl (lv_at hl 2 rfl) ?_
            refine lv_dup hx hb dX8_join_151 rfl ?_
            refine va_get (D := D) (ci := 8) (v := .int (V81 3 15)) (fs := (xfStock ad V81 L Z63)) (C := RX8) (T := TX8) (N := 16) hx hb hg inX8 hown hK hP 3 xgStock rfl 15 (by decide) (hg _ w394) (fun _ h9 => h9) rfl dX8_join_152 ?_
            refine g_top (v := (V 3 15)) ((up2_o hV81 (by decide)).trans ((up2_o hV68 (by decide)).trans ((up2_o hV66 (by decide)).trans (ajV62 3 15 rfl)))) ?_
            refine lv_iconst (v := 1) hx hb dX8_join_155 (by decide) ?_
            refine lv_iadd hx hb dX8_join_156 ?_
            refine lv_topi (fun z83 ez83 => ?_)
            have hz83 : z83.toInt = ((V 3 15)).toInt + 1 := i_add ez83 rfl (by decide) (by (first | exact om_f92aeb5a09ea hlc klp78_1.1 xlp78_0 | omega))
            refine va_put (D := D) (ci := 8) (v := .int z83) (ty := tyX8 15) (fs := (xfStock ad V81 L Z63)) (C := RX8) (T := TX8) (N := 16) hx hb hg inX8 tyX8 tyX8_ok nmX8 hown hK hP hD hS 3 xgStock rfl 15 (by decide) (hg _ w394) (fun _ h9 => h9) rfl (tyX8_ok 15 (by decide)) rfl rfl (Nat.le_of_ble_eq_true rfl) dX8_join_157 (fun H locs hP hD hS => ?_)
            obtain ⟨V84, hV84⟩ : ∃ z, z = up2 V81 3 15 z83 := ⟨_, rfl⟩
            have ew85 : (xw ad kk V81 L Z63).set 3 ((ad 3), .inr (8, (xfStock ad V81 L Z63).set 15 (.int z83))) = xw ad kk V84 L Z63 := by rw [hV84]; exact xw_ss (by decide) rfl (xb_si (by decide))
            have hP : va_P D vwCl (xw ad kk V84 L Z63) H := by rw [← ew85]; exact hP
            have hD : va_D A (xw ad kk V84 L Z63) := by rw [← ew85]; exact hD
            have hMV84 : rgd bX V84 := hMV81.put hV84 (show 0 ≤ z83.toInt ∧ z83.toInt ≤ 262144 from by (first | exact om_58c2777555e7 hlc klp78_1.1 xlp78_0 hz83 | omega))
            have agV84 : agr [(3, 15)] [30, 31, 32] V V84 := agV81.up hV84 rfl
            have pq86 : (V84 3 15).toInt = z83.toInt := congrArg Int32.toInt (up2_s hV84)
            have kq87 := i_clamp (x := y77) rfl (by (first | exact om_eafa9039069c klp78_1.1 | omega))
            have jn88 : JN V62 V84 Z63 Z63 (8 * Int32.toNatClampNeg p0 + Int32.toNatClampNeg p1) := JN.mk (l := Int32.toNatClampNeg (V 3 15)) slx lnx (by omega) (by omega) hV66 hV68 hV81 (by omega) hV84 (by omega) (Or.inr ⟨rfl, by omega, by rw [← hpl]; omega⟩)
            have jn89 : JN V V84 Z Z63 (8 * Int32.toNatClampNeg p0 + Int32.toNatClampNeg p1) := by rw [hV62, hZ63] at jn88; rw [hZ63]; exact JN.gr jn88
            refine W.know (fun kr1 kr2 => ?_)
            refine W.widen (k := zcc Z) (n := zss Z) (Nat.sub_le _ _) (Nat.sub_le _ _) ?_
            exact W.vret hx hb hr (fun t ht hW => ⟨⟨(V84, L, Z63), rfl, ⟨hMV84, agV84, rfl, zoZ63, jn89⟩, ⟨by rw [ht]; exact hP, va_K.moved hW.alike hK, hD⟩, by rw [ht]; exact kr1, by rw [ht]; exact kr2⟩, hS.F ht⟩) hS.2.2 dX8_join_160
          · skip
            have f90 : y76.toInt < 24 := b_nle (by decide) rfl c79
            refine lv_aload_n hx hb dX8_join_113 rfl (lv_at hl 2 rfl) ?_
            refine va_get (D := D) (ci := 8) (v := .ref Z63.l2) (fs := (xfStock ad V68 L Z63)) (C := RX8) (T := TX8) (N := 16) hx hb hg inX8 hown hK hP 3 xgStock rfl 11 (by decide) (hg _ w389) (fun _ h9 => h9) rfl dX8_join_114 ?_
            refine lv_iload hx hb dX8_join_117 (lv_at hl 1 rfl) ?_
            refine va_iald (D := D) (i := y77) hx hb hK hP 29 22 rfl rfl (i_in (a := y77.toInt) rfl (by omega)) dX8_join_119 ?_
            have r91 : (-1) ≤ ((V68 32 (Int32.toNatClampNeg y77))).toInt ∧ ((V68 32 (Int32.toNatClampNeg y77))).toInt ≤ 262143 := hMV68 32 (Int32.toNatClampNeg y77)
            have kq92 := i_clamp (x := y77) rfl (by (first | exact om_eafa9039069c klp78_1.1 | omega))
            have hq93 : (V68 32 (Int32.toNatClampNeg y77)).toInt < (V 3 15).toInt := by have q := slx.2.2.2 (Int32.toNatClampNeg y77) (by omega); rw [up2_k hV68 (by omega), up2_o hV66 (by decide)]; omega
            refine lv_iconst (v := (-1)) hx hb dX8_join_120 (by decide) ?_
            refine lv_icmp_eq (tgt := 139) hx hb dX8_join_121 (by decide) (fun c94 => ?_) (fun c94 => ?_)
            · skip
              have f95 : ((V68 32 (Int32.toNatClampNeg y77))).toInt = (-1) := b_eq rfl (by decide) c94
              refine lv_aload_n hx hb dX8_join_139 rfl (lv_at hl 2 rfl) ?_
              refine va_get (D := D) (ci := 8) (v := .ref Z63.l2) (fs := (xfStock ad V68 L Z63)) (C := RX8) (T := TX8) (N := 16) hx hb hg inX8 hown hK hP 3 xgStock rfl 11 (by decide) (hg _ w389) (fun _ h9 => h9) rfl dX8_join_140 ?_
              refine lv_iload hx hb dX8_join_143 (lv_at hl 1 rfl) ?_
              refine lv_aload_n hx hb dX8_join_145 rfl (lv_at hl 2 rfl) ?_
              refine va_get (D := D) (ci := 8) (v := .int (V68 3 15)) (fs := (xfStock ad V68 L Z63)) (C := RX8) (T := TX8) (N := 16) hx hb hg inX8 hown hK hP 3 xgStock rfl 15 (by decide) (hg _ w394) (fun _ h9 => h9) rfl dX8_join_146 ?_
              refine g_top (v := (V 3 15)) ((up2_o hV68 (by decide)).trans ((up2_o hV66 (by decide)).trans (ajV62 3 15 rfl))) ?_
              refine va_iast (D := D) (i := y77) (x := (V 3 15)) hx hb hK hP hD hS 29 22 rfl rfl (i_in (a := y77.toInt) rfl (by omega)) dX8_join_149 (fun H locs hP hD hS => ?_)
              obtain ⟨V96, hV96⟩ : ∃ z, z = up2 V68 32 (Int32.toNatClampNeg y77) (V 3 15) := ⟨_, rfl⟩
              have ew97 : (xw ad kk V68 L Z63).set 29 (Z63.l2, .inl (Z63.k2, Z63.ln, .inl (upd (V68 32) (Int32.toNatClampNeg y77) (V 3 15)))) = xw ad kk V96 L Z63 := by rw [hV96]; exact xw_ss (by decide) rfl (xb_si (by decide))
              have hP : va_P D vwCl (xw ad kk V96 L Z63) H := by rw [← ew97]; exact hP
              have hD : va_D A (xw ad kk V96 L Z63) := by rw [← ew97]; exact hD
              have hMV96 : rgd bX V96 := hMV68.put hV96 (show (-1) ≤ ((V 3 15)).toInt ∧ ((V 3 15)).toInt ≤ 262143 from by (first | exact om_ca8123c7c681 hlc klp78_1.1 xlp78_0 | omega))
              have agV96 : agr [(3, 15)] [30, 31, 32] V V96 := agV68.up hV96 rfl
              refine lv_aload_n hx hb dX8_join_150 rfl (lv_at hl 2 rfl) ?_
              refine lv_dup hx hb dX8_join_151 rfl ?_
              refine va_get (D := D) (ci := 8) (v := .int (V96 3 15)) (fs := (xfStock ad V96 L Z63)) (C := RX8) (T := TX8) (N := 16) hx hb hg inX8 hown hK hP 3 xgStock rfl 15 (by decide) (hg _ w394) (fun _ h9 => h9) rfl dX8_join_152 ?_
              refine g_top (v := (V 3 15)) ((up2_o hV96 (by decide)).trans ((up2_o hV68 (by decide)).trans ((up2_o hV66 (by decide)).trans (ajV62 3 15 rfl)))) ?_
              refine lv_iconst (v := 1) hx hb dX8_join_155 (by decide) ?_
              refine lv_iadd hx hb dX8_join_156 ?_
              refine lv_topi (fun z98 ez98 => ?_)
              have hz98 : z98.toInt = ((V 3 15)).toInt + 1 := i_add ez98 rfl (by decide) (by (first | exact om_f92aeb5a09ea hlc klp78_1.1 xlp78_0 | omega))
              refine va_put (D := D) (ci := 8) (v := .int z98) (ty := tyX8 15) (fs := (xfStock ad V96 L Z63)) (C := RX8) (T := TX8) (N := 16) hx hb hg inX8 tyX8 tyX8_ok nmX8 hown hK hP hD hS 3 xgStock rfl 15 (by decide) (hg _ w394) (fun _ h9 => h9) rfl (tyX8_ok 15 (by decide)) rfl rfl (Nat.le_of_ble_eq_true rfl) dX8_join_157 (fun H locs hP hD hS => ?_)
              obtain ⟨V99, hV99⟩ : ∃ z, z = up2 V96 3 15 z98 := ⟨_, rfl⟩
              have ew100 : (xw ad kk V96 L Z63).set 3 ((ad 3), .inr (8, (xfStock ad V96 L Z63).set 15 (.int z98))) = xw ad kk V99 L Z63 := by rw [hV99]; exact xw_ss (by decide) rfl (xb_si (by decide))
              have hP : va_P D vwCl (xw ad kk V99 L Z63) H := by rw [← ew100]; exact hP
              have hD : va_D A (xw ad kk V99 L Z63) := by rw [← ew100]; exact hD
              have hMV99 : rgd bX V99 := hMV96.put hV99 (show 0 ≤ z98.toInt ∧ z98.toInt ≤ 262144 from by (first | exact om_58c2777555e7 hlc klp78_1.1 xlp78_0 hz98 | omega))
              have agV99 : agr [(3, 15)] [30, 31, 32] V V99 := agV96.up hV99 rfl
              have pq101 : (V99 3 15).toInt = z98.toInt := congrArg Int32.toInt (up2_s hV99)
              have kq102 := i_clamp (x := y77) rfl (by (first | exact om_eafa9039069c klp78_1.1 | omega))
              have jn103 : JN V62 V99 Z63 Z63 (8 * Int32.toNatClampNeg p0 + Int32.toNatClampNeg p1) := JN.mk (l := Int32.toNatClampNeg (V 3 15)) slx lnx (by omega) (by omega) hV66 hV68 hV96 (by omega) hV99 (by omega) (Or.inr ⟨rfl, by omega, by rw [← hpl]; omega⟩)
              have jn104 : JN V V99 Z Z63 (8 * Int32.toNatClampNeg p0 + Int32.toNatClampNeg p1) := by rw [hV62, hZ63] at jn103; rw [hZ63]; exact JN.gr jn103
              refine W.know (fun kr1 kr2 => ?_)
              refine W.widen (k := zcc Z) (n := zss Z) (Nat.sub_le _ _) (Nat.sub_le _ _) ?_
              exact W.vret hx hb hr (fun t ht hW => ⟨⟨(V99, L, Z63), rfl, ⟨hMV99, agV99, rfl, zoZ63, jn104⟩, ⟨by rw [ht]; exact hP, va_K.moved hW.alike hK, hD⟩, by rw [ht]; exact kr1, by rw [ht]; exact kr2⟩, hS.F ht⟩) hS.2.2 dX8_join_160
            · skip
              have f105 : ((V68 32 (Int32.toNatClampNeg y77))).toInt ≠ (-1) := b_neq rfl (by decide) c94
              refine lv_aload_n hx hb dX8_join_124 rfl (lv_at hl 2 rfl) ?_
              refine va_get (D := D) (ci := 8) (v := .ref Z63.l2) (fs := (xfStock ad V68 L Z63)) (C := RX8) (T := TX8) (N := 16) hx hb hg inX8 hown hK hP 3 xgStock rfl 11 (by decide) (hg _ w389) (fun _ h9 => h9) rfl dX8_join_125 ?_
              refine lv_iload hx hb dX8_join_128 (lv_at hl 1 rfl) ?_
              refine va_iald (D := D) (i := y77) hx hb hK hP 29 22 rfl rfl (i_in (a := y77.toInt) rfl (by omega)) dX8_join_130 ?_
              have kq106 := i_clamp (x := y77) rfl (by (first | exact om_eafa9039069c klp78_1.1 | omega))
              have hq107 : (V68 32 (Int32.toNatClampNeg y77)).toInt < (V 3 15).toInt := by have q := slx.2.2.2 (Int32.toNatClampNeg y77) (by omega); rw [up2_k hV68 (by omega), up2_o hV66 (by decide)]; omega
              refine lv_istore (lv' := [(4, .int (V68 32 (Int32.toNatClampNeg y77))), (5, .int y76), (0, .ref (ad 3)), (1, .int p0), (2, .int p1), (3, .int p2)]) hx hb dX8_join_131 hl (by decide) rfl (fun ls hl => ?_)
              obtain ⟨z108, ez108⟩ : ∃ y : Int32, y = y76 + 1 := ⟨_, rfl⟩
              have hz108 : z108.toInt = y76.toInt + 1 := i_add ez108 rfl (by decide) (by (first | exact om_bc9106cf44c9 klp78_0.1 f90 | omega))
              refine lv_iinc (v := z108) (lv' := [(5, .int z108), (4, .int (V68 32 (Int32.toNatClampNeg y77))), (0, .ref (ad 3)), (1, .int p0), (2, .int p1), (3, .int p2)]) hx hb dX8_join_133 hl (k := 1) rfl (by rw [ez108]; rfl) (by decide) rfl (fun ls hl => ?_)
              refine lv_goto (tgt := 106) hx hb dX8_join_136 (by decide) ?_
              exact ihlp78 z108 (V68 32 (Int32.toNatClampNeg y77)) H locs ls (by (first | exact om_a5349b170263 klp78_0.1 f90 hz108 | omega)) (by (first | exact om_68f131c046bb hlc r91.1 hq93 f105 | omega)) (show ((V68 32 (Int32.toNatClampNeg y77))).toInt < (V 3 15).toInt from by (first | exact om_0e9116797efb hq93 | omega)) (by (first | exact om_9592d9319ffa hn hz108 | omega)) hP hD hS (lv_sub hl [0, 1, 2, 3, 4, 5] rfl)
      have r109 : Int32.toInt 0 = 0 := by decide
      exact lp78 ((24 - (Int32.toInt 0) + 1 : Int).toNat) 0 (V 30 (Int32.toNatClampNeg z71)) H locs ls (by decide) (by (first | exact om_393feb9d3e2e r72.1 r72.2 f75 | omega)) (show ((V 30 (Int32.toNatClampNeg z71))).toInt < (V 3 15).toInt from by omega) (by (first | exact om_817980d3aa47 | omega)) hP hD hS (lv_sub hl [0, 1, 2, 3, 4, 5] rfl)
    · skip
      have f110 : ((V 30 (Int32.toNatClampNeg z71))).toInt = (-1) := b_eq rfl (by decide) c74
      refine lv_aload_n hx hb dX8_join_85 rfl (lv_at hl 1 rfl) ?_
      refine va_get (D := D) (ci := 8) (v := .ref (ad 27)) (fs := (xfStock ad V68 L Z63)) (C := RX8) (T := TX8) (N := 16) hx hb hg inX8 hown hK hP 3 xgStock rfl 9 (by decide) (hg _ w387) (fun _ h9 => h9) rfl dX8_join_86 ?_
      refine lv_iload_n hx hb dX8_join_89 rfl (lv_at hl 2 rfl) ?_
      refine lv_bipush (v := 8) hx hb dX8_join_90 (by decide) ?_
      refine lv_imul hx hb dX8_join_92 ?_
      refine lv_topi (fun z111 ez111 => ?_)
      have hz111 : z111.toInt = p0.toInt * 8 := i_mul ez111 rfl (by decide) (by (first | exact om_d8eca449dd89 rg_p0.1 rg_p0.2 | omega))
      refine lv_iload_n hx hb dX8_join_93 rfl (lv_at hl 3 rfl) ?_
      refine lv_iadd hx hb dX8_join_94 ?_
      refine lv_topi (fun z112 ez112 => ?_)
      have hz112 : z112.toInt = z111.toInt + p1.toInt := i_add ez112 rfl rfl (by (first | exact om_582758b7b1c9 rg_p0.1 rg_p0.2 rg_p1.1 rg_p1.2 hz111 | omega))
      refine lv_aload_n hx hb dX8_join_95 rfl (lv_at hl 1 rfl) ?_
      refine va_get (D := D) (ci := 8) (v := .int (V68 3 15)) (fs := (xfStock ad V68 L Z63)) (C := RX8) (T := TX8) (N := 16) hx hb hg inX8 hown hK hP 3 xgStock rfl 15 (by decide) (hg _ w394) (fun _ h9 => h9) rfl dX8_join_96 ?_
      refine g_top (v := (V 3 15)) ((up2_o hV68 (by decide)).trans ((up2_o hV66 (by decide)).trans (ajV62 3 15 rfl))) ?_
      refine va_iast (D := D) (i := z112) (x := (V 3 15)) hx hb hK hP hD hS 27 20 rfl rfl (i_in (a := z112.toInt) rfl (by (first | exact om_1416c74478ee rg_p0.1 rg_p0.2 rg_p1.1 rg_p1.2 hz111 hz112 | omega))) dX8_join_99 (fun H locs hP hD hS => ?_)
      obtain ⟨V113, hV113⟩ : ∃ z, z = up2 V68 30 (Int32.toNatClampNeg z112) (V 3 15) := ⟨_, rfl⟩
      have ew114 : (xw ad kk V68 L Z63).set 27 ((ad 27), .inl ((kk 27), 2400, .inl (upd (V68 30) (Int32.toNatClampNeg z112) (V 3 15)))) = xw ad kk V113 L Z63 := by rw [hV113]; exact xw_ss (by decide) rfl (xb_si (by decide))
      have hP : va_P D vwCl (xw ad kk V113 L Z63) H := by rw [← ew114]; exact hP
      have hD : va_D A (xw ad kk V113 L Z63) := by rw [← ew114]; exact hD
      have hMV113 : rgd bX V113 := hMV68.put hV113 (show (-1) ≤ ((V 3 15)).toInt ∧ ((V 3 15)).toInt ≤ 262143 from by (first | exact om_ca44e42f4839 hlc r5 f60 zgZ63 hltz | omega))
      have agV113 : agr [(3, 15)] [30, 31, 32] V V113 := agV68.up hV113 rfl
      refine lv_goto (tgt := 150) hx hb dX8_join_100 (by decide) ?_
      refine lv_aload_n hx hb dX8_join_150 rfl (lv_at hl 1 rfl) ?_
      refine lv_dup hx hb dX8_join_151 rfl ?_
      refine va_get (D := D) (ci := 8) (v := .int (V113 3 15)) (fs := (xfStock ad V113 L Z63)) (C := RX8) (T := TX8) (N := 16) hx hb hg inX8 hown hK hP 3 xgStock rfl 15 (by decide) (hg _ w394) (fun _ h9 => h9) rfl dX8_join_152 ?_
      refine g_top (v := (V 3 15)) ((up2_o hV113 (by decide)).trans ((up2_o hV68 (by decide)).trans ((up2_o hV66 (by decide)).trans (ajV62 3 15 rfl)))) ?_
      refine lv_iconst (v := 1) hx hb dX8_join_155 (by decide) ?_
      refine lv_iadd hx hb dX8_join_156 ?_
      refine lv_topi (fun z115 ez115 => ?_)
      have hz115 : z115.toInt = ((V 3 15)).toInt + 1 := i_add ez115 rfl (by decide) (by (first | exact om_0fa10e9e3498 hlc r5 f60 zgZ63 hltz | omega))
      refine va_put (D := D) (ci := 8) (v := .int z115) (ty := tyX8 15) (fs := (xfStock ad V113 L Z63)) (C := RX8) (T := TX8) (N := 16) hx hb hg inX8 tyX8 tyX8_ok nmX8 hown hK hP hD hS 3 xgStock rfl 15 (by decide) (hg _ w394) (fun _ h9 => h9) rfl (tyX8_ok 15 (by decide)) rfl rfl (Nat.le_of_ble_eq_true rfl) dX8_join_157 (fun H locs hP hD hS => ?_)
      obtain ⟨V116, hV116⟩ : ∃ z, z = up2 V113 3 15 z115 := ⟨_, rfl⟩
      have ew117 : (xw ad kk V113 L Z63).set 3 ((ad 3), .inr (8, (xfStock ad V113 L Z63).set 15 (.int z115))) = xw ad kk V116 L Z63 := by rw [hV116]; exact xw_ss (by decide) rfl (xb_si (by decide))
      have hP : va_P D vwCl (xw ad kk V116 L Z63) H := by rw [← ew117]; exact hP
      have hD : va_D A (xw ad kk V116 L Z63) := by rw [← ew117]; exact hD
      have hMV116 : rgd bX V116 := hMV113.put hV116 (show 0 ≤ z115.toInt ∧ z115.toInt ≤ 262144 from by (first | exact om_03c6ea50aeb8 hlc r5 f60 zgZ63 hltz hz115 | omega))
      have agV116 : agr [(3, 15)] [30, 31, 32] V V116 := agV113.up hV116 rfl
      have pq118 : (V116 3 15).toInt = z115.toInt := congrArg Int32.toInt (up2_s hV116)
      have kq119 := i_clamp (x := z112) rfl (by (first | exact om_75abbf7b0b1b rg_p0.1 rg_p1.1 hz111 hz112 | omega))
      have jn120 : JN V62 V116 Z63 Z63 (8 * Int32.toNatClampNeg p0 + Int32.toNatClampNeg p1) := JN.mk (l := Int32.toNatClampNeg (V 3 15)) slx lnx (by omega) (by omega) hV66 hV68 hV113 (by omega) hV116 (by omega) (Or.inl ⟨rfl, by omega⟩)
      have jn121 : JN V V116 Z Z63 (8 * Int32.toNatClampNeg p0 + Int32.toNatClampNeg p1) := by rw [hV62, hZ63] at jn120; rw [hZ63]; exact JN.gr jn120
      refine W.know (fun kr1 kr2 => ?_)
      refine W.widen (k := zcc Z) (n := zss Z) (Nat.sub_le _ _) (Nat.sub_le _ _) ?_
      exact W.vret hx hb hr (fun t ht hW => ⟨⟨(V116, L, Z63), rfl, ⟨hMV116, agV116, rfl, zoZ63, jn121⟩, ⟨by rw [ht]; exact hP, va_K.moved hW.alike hK, hD⟩, by rw [ht]; exact kr1, by rw [ht]; exact kr2⟩, hS.F ht⟩) hS.2.2 dX8_join_160
end
