section
/-! whom a need is joined to, as the class asks it -/
/-- the i-th, or -1 -/
def JTo (l : List Int) (i : Nat) (r : Int) : Prop := (r = -1 ∧ l.drop i = []) ∨ (∃ x t, l.drop i = x :: t ∧ r = x)
section JTs
variable {V : Vf} {ow : Nat → Nat} {q : Nat} {l : List Int} {lk : Int} {m : Mm}
theorem CHN.hd (h : CHN V ow q l lk) (hn : lk ≠ -1) : ∃ x r, l = x :: r ∧ (V 31 lk.toNat).toInt = x ∧ CHN V ow q r (V 32 lk.toNat).toInt ∧ 0 ≤ lk := by
  cases l with
  | nil => exact absurd h hn
  | cons x r =>
    obtain ⟨h1, h2, h3⟩ := h
    exact ⟨x, r, rfl, h2, h3, h1.1⟩
theorem drop_hi {l t : List Int} {k : Nat} {a : Int} (h : l.drop k = a :: t) : l[k]? = some a ∧ l.drop (k + 1) = t := by
  refine ⟨?_, ?_⟩
  · have z : (l.drop k)[0]? = some a := by rw [h]; rfl
    rw [List.getElem?_drop] at z
    exact z
  · have z : (l.drop k).drop 1 = t := by rw [h]; rfl
    rw [List.drop_drop] at z
    exact z
theorem jl_dn {i : Nat} (h : (jl m q).drop i = []) : ¬ (i : Int) < m 6 q := by
  have z := List.drop_eq_nil_iff.mp h
  rw [jl_len] at z
  omega
theorem jl_dy {i : Nat} {x : Int} {t : List Int} (h : (jl m q).drop i = x :: t) : (i : Int) < m 6 q ∧ m 7 (24 * q + i) = x := by
  have z := (drop_hi h).1
  have y : ¬ (m 6 q).toNat ≤ i := fun e => by
    rw [List.drop_eq_nil_iff.mpr (by rw [jl_len]; exact e)] at h
    cases h
  refine ⟨by omega, ?_⟩
  unfold jl at z
  rw [List.getElem?_map, List.getElem?_range (by omega)] at z
  exact Option.some.inj z
theorem jd_n {o k i : Nat} (h : (jl m (8 * o + k)).drop i = []) : jnd m o k (i : Int) = none := if_neg (jl_dn h)
theorem jd_y {o k i : Nat} {x : Int} {t : List Int} (h : (jl m (8 * o + k)).drop i = x :: t) : jnd m o k (i : Int) = some x := by
  have z := jl_dy h
  unfold jnd
  rw [if_pos z.1, show ((i : Nat) : Int).toNat = i from rfl, z.2]
end JTs
/-- a late need is looked for -/
def lateM (B : Bk) (m : Mm) (a : Int32) (r : List Fr) (lv c sc nd : Int) (f : Fr) : MS := if 10 ≤ lv then mFail m a 0 13 (f :: r) else mGo m a (Froot0 (lv + 1) (((bC B c.toNat nd.toNat).headD 0 : Nat) : Int) sc (m 0 4) :: f :: r)
theorem bC_hd {B : Bk} {c j : Nat} (h : bC B c j ≠ []) : (bC B c j).headD 0 < nC B := by
  cases e : bC B c j with
  | nil => exact absurd e h
  | cons a t =>
    have m : a ∈ bC B c j := by rw [e]; exact List.mem_cons_self
    exact clF_lt m


abbrev r_x_joinedTo9 : Room := { frames := 1, cells := 0, slots := 0, locals := 21 }
abbrev q_x_joinedTo9 (D : va_G) (ks : KS) (ad : Nat → Nat) (kk : Nat → ClassId) (V : Vf) (L : Lf) (Z : XZ) (p0 : Int32) (p1 : Int32) (p2 : Int32) (gow : Nat → Nat) (gl : List Int) (A : Nat → Prop) : Array Value → State → Outcome → State → Prop := va_Qi (fun (r : Int32) (_ : Unit) => (JTo gl p2.toInt.toNat r.toInt)) (fun _ t => gq D A (xw ad kk V L Z) (xty kk Z) t) A
set_option maxHeartbeats 4000000 in
set_option maxRecDepth 100000 in
theorem x_joinedTo9 (l : Launch) (D : va_G) (ks : KS) (sz : Nat) (ad : Nat → Nat) (kk : Nat → ClassId) (V : Vf) (L : Lf) (Z : XZ) (p0 : Int32) (p1 : Int32) (p2 : Int32) (gow : Nat → Nat) (gl : List Int) (hMV : rgd bX V) (sl : SL V Z) (chn : CHN V gow (8 * Int32.toNatClampNeg p0 + Int32.toNatClampNeg p1) gl (V 30 (8 * Int32.toNatClampNeg p0 + Int32.toNatClampNeg p1)).toInt) (jo0 : 0 ≤ p0.toInt) (jo1 : p0.toInt < (V 3 13).toInt) (jo2 : 0 ≤ p1.toInt) (jo3 : p1.toInt ≤ 7) (jo4 : 0 ≤ p2.toInt)  : Met l yX8_joinedTo (Cond.code yX8_joinedTo cX8_joinedTo 6 (some .int) :: GW) r_x_joinedTo9 (va_Pc [.ref (ad 3), .int p0, .int p1, .int p2] (gp D ks (xw ad kk V L Z) (xty kk Z) sz)) (q_x_joinedTo9 D ks ad kk V L Z p0 p1 p2 gow gl (va_A (xw ad kk V L Z) sz)) 0 0 (va_A (xw ad kk V L Z) sz) := by
  refine g_met (q_x_joinedTo9 D ks ad kk V L Z p0 p1 p2 gow gl) (by decide) (Nat.le_of_ble_eq_true rfl) ?_
  intro p e s m below meth c A ls H locs hx hb hr hml hown hg hlocks hin hnw hgk hP hK hD hS hA hl
  have hown : s.vm.findClass RX8 = some m.cls := hown
  have hl : lv_has ls 6 [(0, .ref (ad 3)), (1, .int p0), (2, .int p1), (3, .int p2)] := hl
  have hP : va_P D vwCl (xw ad kk V L Z) H := hP
  have hD : va_D A (xw ad kk V L Z) := hD
  have hK : va_K D vwCl (xty kk Z) s := hK
  have hf2 := i_full p2
  refine lv_aload_n hx hb dX8_joinedTo_0 rfl (lv_at hl 0 rfl) ?_
  refine lv_iload_n hx hb dX8_joinedTo_1 rfl (lv_at hl 1 rfl) ?_
  refine gA_int (gA_runV (As := [.int p0]) (rest := []) (ci := 8) (q0 := 3) hx hb hml hown hg hP hD hK hS hA hnw hgk (x_has2 l D ks H.size ad kk V L Z p0 hMV ) w1300 w1301 w1302 w164 w1303 rfl xgStock hdV_yX8_has ⟨Nat.le_of_ble_eq_true rfl, Nat.le_of_ble_eq_true rfl⟩ rfl hl.1 rfl (Nat.le_of_ble_eq_true rfl) dX8_joinedTo_2 ⟨Nat.le_of_ble_eq_true rfl, Nat.le_of_ble_eq_true rfl⟩) hP hD hK hS hA (fun z1 u2 H locs w3 hP hD hK hS => ?_)
  obtain ⟨rgz1, t4, t5⟩ := w3
  have rgz1 : 0 ≤ z1.toInt ∧ z1.toInt ≤ 1 := rgz1
  have t4 : Imp (z1.toInt = 1) (0 ≤ p0.toInt ∧ p0.toInt < (V 3 13).toInt) := t4
  have t5 : Imp (z1.toInt = 0) (p0.toInt < 0 ∨ (V 3 13).toInt ≤ p0.toInt) := t5
  have r6 : 0 ≤ ((V 3 13)).toInt ∧ ((V 3 13)).toInt ≤ 300 := hMV 3 13
  refine lv_if_eq (tgt := 22) hx hb dX8_joinedTo_5 (by decide) (fun c7 => ?_) (fun c7 => ?_)
  · skip
    have f8 : z1.toInt = 0 := b_eq rfl (by decide) c7
    refine lv_iconst (v := (-1)) hx hb dX8_joinedTo_22 (by decide) ?_
    exact W.iret (v := (-1)) hx hb hr (fun t ht hW => ⟨⟨(-1), (), rfl, (by exfalso; first | (have i_t5 := Imp.go t5 (by exact om_b66ba74381d5 f8); exact om_7562c9f2d223 jo0 jo1 i_t5) | first | omega | ((try (have i_t5 := Imp.go t5 (f8))); omega) | ((try (have i_t5 := Imp.go t5 (by omega))); (try (have i_t4 := Imp.go t4 (by omega))); (try (have i_chn := Imp.go chn (by omega))); (try (have i_sl := Imp.go sl (by omega))); first | omega | ((try (have i_sl := Imp.go sl (by omega))); (try (have i_chn := Imp.go chn (by omega))); (try (have i_t4 := Imp.go t4 (by omega))); (try (have i_t5 := Imp.go t5 (by omega))); omega))), by rw [ht]; exact hP, va_K.moved hW.alike hK, hD⟩, hS.F ht⟩) hS.2.2 dX8_joinedTo_23
  · skip
    have f9 : z1.toInt ≠ 0 := b_neq rfl (by decide) c7
    refine lv_iload_n hx hb dX8_joinedTo_8 rfl (lv_at hl 2 rfl) ?_
    refine lv_if_lt (tgt := 22) hx hb dX8_joinedTo_9 (by decide) (fun c10 => ?_) (fun c10 => ?_)
    · skip
      have f11 : p1.toInt < 0 := b_lt rfl (by decide) c10
      refine lv_iconst (v := (-1)) hx hb dX8_joinedTo_22 (by decide) ?_
      exact W.iret (v := (-1)) hx hb hr (fun t ht hW => ⟨⟨(-1), (), rfl, (by exfalso; first | exact om_1b10ca75f5f0 jo2 f11 | first | omega | ((try (have i_t4 := Imp.go t4 (imp_a (rgz1.1) (rgz1.2) (f9)))); omega) | ((try (have i_t5 := Imp.go t5 (by omega))); (try (have i_t4 := Imp.go t4 (by omega))); (try (have i_chn := Imp.go chn (by omega))); (try (have i_sl := Imp.go sl (by omega))); first | omega | ((try (have i_sl := Imp.go sl (by omega))); (try (have i_chn := Imp.go chn (by omega))); (try (have i_t4 := Imp.go t4 (by omega))); (try (have i_t5 := Imp.go t5 (by omega))); omega))), by rw [ht]; exact hP, va_K.moved hW.alike hK, hD⟩, hS.F ht⟩) hS.2.2 dX8_joinedTo_23
    · skip
      have f12 : 0 ≤ p1.toInt := b_nlt rfl (by decide) c10
      refine lv_iload_n hx hb dX8_joinedTo_12 rfl (lv_at hl 2 rfl) ?_
      refine lv_bipush (v := 8) hx hb dX8_joinedTo_13 (by decide) ?_
      refine lv_icmp_ge (tgt := 22) hx hb dX8_joinedTo_15 (by decide) (fun c13 => ?_) (fun c13 => ?_)
      · skip
        have f14 : 8 ≤ p1.toInt := b_le (by decide) rfl c13
        refine lv_iconst (v := (-1)) hx hb dX8_joinedTo_22 (by decide) ?_
        exact W.iret (v := (-1)) hx hb hr (fun t ht hW => ⟨⟨(-1), (), rfl, (by exfalso; first | exact om_f06fc66ee09b jo3 f14 | first | omega | ((try (have i_t4 := Imp.go t4 (imp_a (rgz1.1) (rgz1.2) (f9)))); omega) | ((try (have i_t5 := Imp.go t5 (by omega))); (try (have i_t4 := Imp.go t4 (by omega))); (try (have i_chn := Imp.go chn (by omega))); (try (have i_sl := Imp.go sl (by omega))); first | omega | ((try (have i_sl := Imp.go sl (by omega))); (try (have i_chn := Imp.go chn (by omega))); (try (have i_t4 := Imp.go t4 (by omega))); (try (have i_t5 := Imp.go t5 (by omega))); omega))), by rw [ht]; exact hP, va_K.moved hW.alike hK, hD⟩, hS.F ht⟩) hS.2.2 dX8_joinedTo_23
      · skip
        have f15 : p1.toInt < 8 := b_nle (by decide) rfl c13
        refine lv_iload_n hx hb dX8_joinedTo_18 rfl (lv_at hl 3 rfl) ?_
        refine lv_if_ge (tgt := 24) hx hb dX8_joinedTo_19 (by decide) (fun c16 => ?_) (fun c16 => ?_)
        · skip
          have f17 : 0 ≤ p2.toInt := b_le (by decide) rfl c16
          refine lv_aload_n hx hb dX8_joinedTo_24 rfl (lv_at hl 0 rfl) ?_
          refine va_get (D := D) (ci := 8) (v := .ref (ad 27)) (fs := (xfStock ad V L Z)) (C := RX8) (T := TX8) (N := 16) hx hb hg inX8 hown hK hP 3 xgStock rfl 9 (by decide) (hg _ w387) (fun _ h9 => h9) rfl dX8_joinedTo_25 ?_
          refine lv_iload_n hx hb dX8_joinedTo_28 rfl (lv_at hl 1 rfl) ?_
          refine lv_bipush (v := 8) hx hb dX8_joinedTo_29 (by decide) ?_
          refine lv_imul hx hb dX8_joinedTo_31 ?_
          refine lv_topi (fun z18 ez18 => ?_)
          have hz18 : z18.toInt = p0.toInt * 8 := i_mul ez18 rfl (by decide) (by (first | exact om_6e979e2facd3 jo0 jo1 r6.2 | omega))
          refine lv_iload_n hx hb dX8_joinedTo_32 rfl (lv_at hl 2 rfl) ?_
          refine lv_iadd hx hb dX8_joinedTo_33 ?_
          refine lv_topi (fun z19 ez19 => ?_)
          have hz19 : z19.toInt = z18.toInt + p1.toInt := i_add ez19 rfl rfl (by (first | exact om_cb474779f7d0 jo0 jo1 jo2 jo3 r6.2 hz18 | omega))
          have kp0 := i_clamp (x := p0) rfl (by (first | exact om_eafa9039069c jo0 | omega))
          have kp1 := i_clamp (x := p1) rfl (by (first | exact om_eafa9039069c jo2 | omega))
          have kz : Int32.toNatClampNeg z19 = 8 * Int32.toNatClampNeg p0 + Int32.toNatClampNeg p1 := by have h9 := i_clamp (x := z19) rfl (by (first | exact om_75abbf7b0b1b jo0 jo2 hz18 hz19 | omega)); (first | exact om_d0bf4b743eaa hz18 hz19 kp0 kp1 h9 | omega)
          have ch : (V 30 (Int32.toNatClampNeg z19)).toInt < (V 3 15).toInt := by rw [kz]; exact sl.2.2.1 _ _ (by (first | exact om_8e804528d4db jo1 kp0 | omega)) (by (first | exact om_adc9cf946b8b jo2 jo3 hz18 hz19 kp0 kp1 kz | omega))
          have lc := sl.1
          refine va_iald (D := D) (i := z19) hx hb hK hP 27 20 rfl rfl (i_in (a := z19.toInt) rfl (by first | exact om_c2e431ccca5c jo0 jo2 jo3 r6.2 hz18 hz19 ((Imp.go t4 (imp_a (rgz1.1) (rgz1.2) (f9))).2) | first | omega | ((try (have i_t4 := Imp.go t4 (imp_a (rgz1.1) (rgz1.2) (f9)))); omega) | ((try (have i_t5 := Imp.go t5 (by omega))); (try (have i_t4 := Imp.go t4 (by omega))); (try (have i_chn := Imp.go chn (by omega))); (try (have i_sl := Imp.go sl (by omega))); first | omega | ((try (have i_sl := Imp.go sl (by omega))); (try (have i_chn := Imp.go chn (by omega))); (try (have i_t4 := Imp.go t4 (by omega))); (try (have i_t5 := Imp.go t5 (by omega))); omega)))) dX8_joinedTo_34 ?_
          have r20 : (-1) ≤ ((V 30 (Int32.toNatClampNeg z19))).toInt ∧ ((V 30 (Int32.toNatClampNeg z19))).toInt ≤ 262143 := hMV 30 (Int32.toNatClampNeg z19)
          refine lv_istore (lv' := [(4, .int (V 30 (Int32.toNatClampNeg z19))), (0, .ref (ad 3)), (1, .int p0), (2, .int p1), (3, .int p2)]) hx hb dX8_joinedTo_35 hl (by decide) rfl (fun ls hl => ?_)
          refine lv_iconst (v := 0) hx hb dX8_joinedTo_37 (by decide) ?_
          refine lv_istore (lv' := [(5, .int 0), (4, .int (V 30 (Int32.toNatClampNeg z19))), (0, .ref (ad 3)), (1, .int p0), (2, .int p1), (3, .int p2)]) hx hb dX8_joinedTo_38 hl (by decide) rfl (fun ls hl => ?_)
          have lp23 : ∀ (fulp23 : Nat) (y21 : Int32) (y22 : Int32) (H : Heap) (locs : List Loc) (ls : Array Slot), 0 ≤ y21.toInt ∧ y21.toInt ≤ 2147483647 → (-1) ≤ y22.toInt ∧ y22.toInt ≤ 262143 → y22.toInt < (V 3 15).toInt → y21.toInt ≤ p2.toInt → (∃ l2 : List Int, CHN V gow (8 * Int32.toNatClampNeg p0 + Int32.toNatClampNeg p1) l2 y22.toInt ∧ l2 = gl.drop y21.toInt.toNat) → p2.toInt - y21.toInt < (fulp23 : Int) → va_P D vwCl (xw ad kk V L Z) H → va_D A (xw ad kk V L Z) → va_S A s.heap H locs → lv_has ls 6 [(5, .int y21), (4, .int y22), (0, .ref (ad 3)), (1, .int p0), (2, .int p1), (3, .int p2)] → W p l e r_x_joinedTo9 s m ([.ref (ad 3), .int p0, .int p1, .int p2] : List Value).toArray below meth c H locs 0 0 (MQ below (q_x_joinedTo9 D ks ad kk V L Z p0 p1 p2 gow gl A) ([.ref (ad 3), .int p0, .int p1, .int p2] : List Value).toArray s 0 0 A) (F0 m 40 ls []) := by
            intro fulp23
            induction fulp23 with
            | zero =>
              intro y21 y22 H locs ls klp23_0 klp23_1 xlp23_0 xlp23_1 xlp23_2 hn  hP hD hS hl
              exfalso; (first | exact om_4634b1278845 xlp23_1 hn | omega)
            | succ fulp23 ihlp23 =>
              intro y21 y22 H locs ls klp23_0 klp23_1 xlp23_0 xlp23_1 xlp23_2 hn  hP hD hS hl
              have r24 : 0 ≤ ((V 3 15)).toInt ∧ ((V 3 15)).toInt ≤ 262144 := hMV 3 15
              refine lv_iload hx hb dX8_joinedTo_40 (lv_at hl 0 rfl) ?_
              refine lv_iload_n hx hb dX8_joinedTo_42 rfl (lv_at hl 5 rfl) ?_
              refine lv_icmp_ge (tgt := 67) hx hb dX8_joinedTo_43 (by decide) (fun c25 => ?_) (fun c25 => ?_)
              · skip
                have f26 : p2.toInt ≤ y21.toInt := b_le rfl rfl c25
                refine lv_iload hx hb dX8_joinedTo_67 (lv_at hl 1 rfl) ?_
                refine lv_iconst (v := (-1)) hx hb dX8_joinedTo_69 (by decide) ?_
                refine lv_icmp_ne (tgt := 77) hx hb dX8_joinedTo_70 (by decide) (fun c27 => ?_) (fun c27 => ?_)
                · skip
                  have f28 : y22.toInt ≠ (-1) := b_neq rfl (by decide) c27
                  refine lv_aload_n hx hb dX8_joinedTo_77 rfl (lv_at hl 2 rfl) ?_
                  refine va_get (D := D) (ci := 8) (v := .ref Z.l1) (fs := (xfStock ad V L Z)) (C := RX8) (T := TX8) (N := 16) hx hb hg inX8 hown hK hP 3 xgStock rfl 10 (by decide) (hg _ w388) (fun _ h9 => h9) rfl dX8_joinedTo_78 ?_
                  refine lv_iload hx hb dX8_joinedTo_81 (lv_at hl 1 rfl) ?_
                  refine va_iald (D := D) (i := y22) hx hb hK hP 28 21 rfl rfl (i_in (a := y22.toInt) rfl (by first | exact om_24897f006071 lc klp23_1 xlp23_0 f28 | first | omega | ((try (have i_t4 := Imp.go t4 (imp_a (rgz1.1) (rgz1.2) (f9)))); omega) | ((try (have i_t5 := Imp.go t5 (by omega))); (try (have i_t4 := Imp.go t4 (by omega))); (try (have i_chn := Imp.go chn (by omega))); (try (have i_sl := Imp.go sl (by omega))); first | omega | ((try (have i_sl := Imp.go sl (by omega))); (try (have i_chn := Imp.go chn (by omega))); (try (have i_t4 := Imp.go t4 (by omega))); (try (have i_t5 := Imp.go t5 (by omega))); omega)))) dX8_joinedTo_83 ?_
                  exact W.iret (v := (V 31 (Int32.toNatClampNeg y22))) hx hb hr (fun t ht hW => ⟨⟨(V 31 (Int32.toNatClampNeg y22)), (), rfl, (Or.inr (by obtain ⟨l2, h1, h2⟩ := xlp23_2; obtain ⟨x9, r9, e9, v9, n9, _⟩ := CHN.hd h1 (by (first | exact om_f93c0c4c889f f28 | omega)); exact ⟨x9, r9, by rw [show p2.toInt.toNat = y21.toInt.toNat from by (first | exact om_53346d17d25d klp23_0 xlp23_1 f26 | omega)]; exact h2.symm.trans e9, v9⟩)), by rw [ht]; exact hP, va_K.moved hW.alike hK, hD⟩, hS.F ht⟩) hS.2.2 dX8_joinedTo_84
                · skip
                  have f29 : y22.toInt = (-1) := b_eq rfl (by decide) c27
                  refine lv_iconst (v := (-1)) hx hb dX8_joinedTo_73 (by decide) ?_
                  refine lv_goto (tgt := 84) hx hb dX8_joinedTo_74 (by decide) ?_
                  exact W.iret (v := (-1)) hx hb hr (fun t ht hW => ⟨⟨(-1), (), rfl, (Or.inl ⟨rfl, by obtain ⟨l2, h1, h2⟩ := xlp23_2; have h3 := (CHN.at _ _ h1).1.mp (by (first | exact om_a870fdf34004 f29 | omega)); rw [h3] at h2; have h4 := List.drop_eq_nil_iff.mp h2.symm; exact List.drop_eq_nil_iff.mpr (by (first | exact om_bb9825496cce klp23_0 xlp23_1 f26 h4 | omega))⟩), by rw [ht]; exact hP, va_K.moved hW.alike hK, hD⟩, hS.F ht⟩) hS.2.2 dX8_joinedTo_84
              · skip
                have f30 : y21.toInt < p2.toInt := b_nle rfl rfl c25
                refine lv_iload hx hb dX8_joinedTo_46 (lv_at hl 1 rfl) ?_
                refine lv_iconst (v := (-1)) hx hb dX8_joinedTo_48 (by decide) ?_
                refine lv_icmp_eq (tgt := 67) hx hb dX8_joinedTo_49 (by decide) (fun c31 => ?_) (fun c31 => ?_)
                · skip
                  have f32 : y22.toInt = (-1) := b_eq rfl (by decide) c31
                  refine lv_iload hx hb dX8_joinedTo_67 (lv_at hl 1 rfl) ?_
                  refine lv_iconst (v := (-1)) hx hb dX8_joinedTo_69 (by decide) ?_
                  refine lv_icmp_ne (tgt := 77) hx hb dX8_joinedTo_70 (by decide) (fun c33 => ?_) (fun c33 => ?_)
                  · skip
                    have f34 : y22.toInt ≠ (-1) := b_neq rfl (by decide) c33
                    exfalso; first | exact om_e12999c70aea klp23_1.1 f32 f34 | first | omega | ((try (have i_t4 := Imp.go t4 (imp_a (rgz1.1) (rgz1.2) (f9)))); omega) | ((try (have i_t5 := Imp.go t5 (by omega))); (try (have i_t4 := Imp.go t4 (by omega))); (try (have i_chn := Imp.go chn (by omega))); (try (have i_sl := Imp.go sl (by omega))); first | omega | ((try (have i_sl := Imp.go sl (by omega))); (try (have i_chn := Imp.go chn (by omega))); (try (have i_t4 := Imp.go t4 (by omega))); (try (have i_t5 := Imp.go t5 (by omega))); omega))
                  · skip
                    have f35 : y22.toInt = (-1) := b_eq rfl (by decide) c33
                    refine lv_iconst (v := (-1)) hx hb dX8_joinedTo_73 (by decide) ?_
                    refine lv_goto (tgt := 84) hx hb dX8_joinedTo_74 (by decide) ?_
                    exact W.iret (v := (-1)) hx hb hr (fun t ht hW => ⟨⟨(-1), (), rfl, (Or.inl ⟨rfl, by obtain ⟨l2, h1, h2⟩ := xlp23_2; have h3 := (CHN.at _ _ h1).1.mp (by (first | exact om_a870fdf34004 f32 | omega)); rw [h3] at h2; have h4 := List.drop_eq_nil_iff.mp h2.symm; exact List.drop_eq_nil_iff.mpr (by (first | exact om_5b42d75c2f5d jo4 hf2 klp23_0 f30 h4 | omega))⟩), by rw [ht]; exact hP, va_K.moved hW.alike hK, hD⟩, hS.F ht⟩) hS.2.2 dX8_joinedTo_84
                · skip
                  have f36 : y22.toInt ≠ (-1) := b_neq rfl (by decide) c31
                  refine lv_aload_n hx hb dX8_joinedTo_52 rfl (lv_at hl 2 rfl) ?_
                  refine va_get (D := D) (ci := 8) (v := .ref Z.l2) (fs := (xfStock ad V L Z)) (C := RX8) (T := TX8) (N := 16) hx hb hg inX8 hown hK hP 3 xgStock rfl 11 (by decide) (hg _ w389) (fun _ h9 => h9) rfl dX8_joinedTo_53 ?_
                  refine lv_iload hx hb dX8_joinedTo_56 (lv_at hl 1 rfl) ?_
                  have kl := i_clamp (x := y22) rfl (by (first | exact om_e3b1d6ac9ce8 klp23_1.1 f36 | omega))
                  have nl : (V 32 (Int32.toNatClampNeg y22)).toInt < (V 3 15).toInt := sl.2.2.2 _ (by (first | exact om_8e804528d4db xlp23_0 kl | omega))
                  refine va_iald (D := D) (i := y22) hx hb hK hP 29 22 rfl rfl (i_in (a := y22.toInt) rfl (by first | exact om_6769d2dd93e2 lc klp23_1 xlp23_0 kl | first | omega | ((try (have i_t4 := Imp.go t4 (imp_a (rgz1.1) (rgz1.2) (f9)))); omega) | ((try (have i_t5 := Imp.go t5 (by omega))); (try (have i_t4 := Imp.go t4 (by omega))); (try (have i_chn := Imp.go chn (by omega))); (try (have i_sl := Imp.go sl (by omega))); first | omega | ((try (have i_sl := Imp.go sl (by omega))); (try (have i_chn := Imp.go chn (by omega))); (try (have i_t4 := Imp.go t4 (by omega))); (try (have i_t5 := Imp.go t5 (by omega))); omega)))) dX8_joinedTo_58 ?_
                  have r37 : (-1) ≤ ((V 32 (Int32.toNatClampNeg y22))).toInt ∧ ((V 32 (Int32.toNatClampNeg y22))).toInt ≤ 262143 := hMV 32 (Int32.toNatClampNeg y22)
                  refine lv_istore (lv' := [(4, .int (V 32 (Int32.toNatClampNeg y22))), (5, .int y21), (0, .ref (ad 3)), (1, .int p0), (2, .int p1), (3, .int p2)]) hx hb dX8_joinedTo_59 hl (by decide) rfl (fun ls hl => ?_)
                  obtain ⟨z38, ez38⟩ : ∃ y : Int32, y = y21 + 1 := ⟨_, rfl⟩
                  have hz38 : z38.toInt = y21.toInt + 1 := i_add ez38 rfl (by decide) (by (first | exact om_88bd6a12a5d9 hf2.2 klp23_0.1 f30 | omega))
                  refine lv_iinc (v := z38) (lv' := [(5, .int z38), (4, .int (V 32 (Int32.toNatClampNeg y22))), (0, .ref (ad 3)), (1, .int p0), (2, .int p1), (3, .int p2)]) hx hb dX8_joinedTo_61 hl (k := 1) rfl (by rw [ez38]; rfl) (by decide) rfl (fun ls hl => ?_)
                  refine lv_goto (tgt := 40) hx hb dX8_joinedTo_64 (by decide) ?_
                  exact ihlp23 z38 (V 32 (Int32.toNatClampNeg y22)) H locs ls (by first | exact om_3a58d8ac03eb hf2.2 klp23_0.1 f30 hz38 | first | omega | ((try (have i_t4 := Imp.go t4 (imp_a (rgz1.1) (rgz1.2) (f9)))); omega) | ((try (have i_t5 := Imp.go t5 (by omega))); (try (have i_t4 := Imp.go t4 (by omega))); (try (have i_chn := Imp.go chn (by omega))); (try (have i_sl := Imp.go sl (by omega))); first | omega | ((try (have i_sl := Imp.go sl (by omega))); (try (have i_chn := Imp.go chn (by omega))); (try (have i_t4 := Imp.go t4 (by omega))); (try (have i_t5 := Imp.go t5 (by omega))); omega))) (by first | exact om_1fc4a2de535e r37.1 r37.2 | first | omega | ((try (have i_t4 := Imp.go t4 (imp_a (rgz1.1) (rgz1.2) (f9)))); omega) | ((try (have i_t5 := Imp.go t5 (by omega))); (try (have i_t4 := Imp.go t4 (by omega))); (try (have i_chn := Imp.go chn (by omega))); (try (have i_sl := Imp.go sl (by omega))); first | omega | ((try (have i_sl := Imp.go sl (by omega))); (try (have i_chn := Imp.go chn (by omega))); (try (have i_t4 := Imp.go t4 (by omega))); (try (have i_t5 := Imp.go t5 (by omega))); omega))) (show ((V 32 (Int32.toNatClampNeg y22))).toInt < (V 3 15).toInt from by first | exact om_0e9116797efb nl | first | omega | ((try (have i_t4 := Imp.go t4 (imp_a (rgz1.1) (rgz1.2) (f9)))); omega) | ((try (have i_t5 := Imp.go t5 (by omega))); (try (have i_t4 := Imp.go t4 (by omega))); (try (have i_chn := Imp.go chn (by omega))); (try (have i_sl := Imp.go sl (by omega))); first | omega | ((try (have i_sl := Imp.go sl (by omega))); (try (have i_chn := Imp.go chn (by omega))); (try (have i_t4 := Imp.go t4 (by omega))); (try (have i_t5 := Imp.go t5 (by omega))); omega))) (show z38.toInt ≤ p2.toInt from by first | exact om_7fe9249fc074 f30 hz38 | first | omega | ((try (have i_t4 := Imp.go t4 (imp_a (rgz1.1) (rgz1.2) (f9)))); omega) | ((try (have i_t5 := Imp.go t5 (by omega))); (try (have i_t4 := Imp.go t4 (by omega))); (try (have i_chn := Imp.go chn (by omega))); (try (have i_sl := Imp.go sl (by omega))); first | omega | ((try (have i_sl := Imp.go sl (by omega))); (try (have i_chn := Imp.go chn (by omega))); (try (have i_t4 := Imp.go t4 (by omega))); (try (have i_t5 := Imp.go t5 (by omega))); omega))) (by obtain ⟨l2, h1, h2⟩ := xlp23_2; obtain ⟨x9, r9, e9, v9, n9, _⟩ := CHN.hd h1 (by (first | exact om_06df15c343d5 klp23_1 kl | omega)); exact ⟨r9, n9, by rw [show z38.toInt.toNat = y21.toInt.toNat + 1 from by (first | exact om_95a3b75a6940 klp23_0 hz38 | omega)]; exact (drop_hi (h2.symm.trans e9)).2.symm⟩) (by first | exact om_9e7d2b874257 hn hz38 | first | omega | ((try (have i_t4 := Imp.go t4 (imp_a (rgz1.1) (rgz1.2) (f9)))); omega) | ((try (have i_t5 := Imp.go t5 (by omega))); (try (have i_t4 := Imp.go t4 (by omega))); (try (have i_chn := Imp.go chn (by omega))); (try (have i_sl := Imp.go sl (by omega))); first | omega | ((try (have i_sl := Imp.go sl (by omega))); (try (have i_chn := Imp.go chn (by omega))); (try (have i_t4 := Imp.go t4 (by omega))); (try (have i_t5 := Imp.go t5 (by omega))); omega))) hP hD hS (lv_sub hl [0, 1, 2, 3, 4, 5] rfl)
          have r39 : Int32.toInt 0 = 0 := by decide
          have r40 : 0 ≤ ((V 3 15)).toInt ∧ ((V 3 15)).toInt ≤ 262144 := hMV 3 15
          exact lp23 ((p2.toInt - (Int32.toInt 0) + 1 : Int).toNat) 0 (V 30 (Int32.toNatClampNeg z19)) H locs ls (by decide) (by first | exact om_1fc4a2de535e r20.1 r20.2 | first | omega | ((try (have i_t4 := Imp.go t4 (imp_a (rgz1.1) (rgz1.2) (f9)))); omega) | ((try (have i_t5 := Imp.go t5 (by omega))); (try (have i_t4 := Imp.go t4 (by omega))); (try (have i_chn := Imp.go chn (by omega))); (try (have i_sl := Imp.go sl (by omega))); first | omega | ((try (have i_sl := Imp.go sl (by omega))); (try (have i_chn := Imp.go chn (by omega))); (try (have i_t4 := Imp.go t4 (by omega))); (try (have i_t5 := Imp.go t5 (by omega))); omega))) (show ((V 30 (Int32.toNatClampNeg z19))).toInt < (V 3 15).toInt from by first | exact om_0e9116797efb ch | first | omega | ((try (have i_t4 := Imp.go t4 (imp_a (rgz1.1) (rgz1.2) (f9)))); omega) | ((try (have i_t5 := Imp.go t5 (by omega))); (try (have i_t4 := Imp.go t4 (by omega))); (try (have i_chn := Imp.go chn (by omega))); (try (have i_sl := Imp.go sl (by omega))); first | omega | ((try (have i_sl := Imp.go sl (by omega))); (try (have i_chn := Imp.go chn (by omega))); (try (have i_t4 := Imp.go t4 (by omega))); (try (have i_t5 := Imp.go t5 (by omega))); omega))) (show (Int32.toInt 0) ≤ p2.toInt from by first | exact om_6f9bb8cf3bec jo4 r39 | first | omega | ((try (have i_t4 := Imp.go t4 (imp_a (rgz1.1) (rgz1.2) (f9)))); omega) | ((try (have i_t5 := Imp.go t5 (by omega))); (try (have i_t4 := Imp.go t4 (by omega))); (try (have i_chn := Imp.go chn (by omega))); (try (have i_sl := Imp.go sl (by omega))); first | omega | ((try (have i_sl := Imp.go sl (by omega))); (try (have i_chn := Imp.go chn (by omega))); (try (have i_t4 := Imp.go t4 (by omega))); (try (have i_t5 := Imp.go t5 (by omega))); omega))) ⟨gl, (by rw [kz]; exact chn), (by rw [show (Int32.toInt 0).toNat = 0 from by decide, List.drop_zero])⟩ (by first | exact om_7441a7786481 | first | omega | ((try (have i_t4 := Imp.go t4 (imp_a (rgz1.1) (rgz1.2) (f9)))); omega) | ((try (have i_t5 := Imp.go t5 (by omega))); (try (have i_t4 := Imp.go t4 (by omega))); (try (have i_chn := Imp.go chn (by omega))); (try (have i_sl := Imp.go sl (by omega))); first | omega | ((try (have i_sl := Imp.go sl (by omega))); (try (have i_chn := Imp.go chn (by omega))); (try (have i_t4 := Imp.go t4 (by omega))); (try (have i_t5 := Imp.go t5 (by omega))); omega))) hP hD hS (lv_sub hl [0, 1, 2, 3, 4, 5] rfl)
        · skip
          have f41 : p2.toInt < 0 := b_nle (by decide) rfl c16
          refine lv_iconst (v := (-1)) hx hb dX8_joinedTo_22 (by decide) ?_
          exact W.iret (v := (-1)) hx hb hr (fun t ht hW => ⟨⟨(-1), (), rfl, (by exfalso; first | exact om_1b10ca75f5f0 jo4 f41 | first | omega | ((try (have i_t4 := Imp.go t4 (imp_a (rgz1.1) (rgz1.2) (f9)))); omega) | ((try (have i_t5 := Imp.go t5 (by omega))); (try (have i_t4 := Imp.go t4 (by omega))); (try (have i_chn := Imp.go chn (by omega))); (try (have i_sl := Imp.go sl (by omega))); first | omega | ((try (have i_sl := Imp.go sl (by omega))); (try (have i_chn := Imp.go chn (by omega))); (try (have i_t4 := Imp.go t4 (by omega))); (try (have i_t5 := Imp.go t5 (by omega))); omega))), by rw [ht]; exact hP, va_K.moved hW.alike hK, hD⟩, hS.F ht⟩) hS.2.2 dX8_joinedTo_23
abbrev r_x_firstCandidate9 : Room := { frames := 2, cells := 0, slots := 0, locals := 53 }
abbrev q_x_firstCandidate9 (D : va_G) (ks : KS) (ad : Nat → Nat) (kk : Nat → ClassId) (V : Vf) (L : Lf) (Z : XZ) (p0 : Int32) (p1 : Int32) (b : Nat) (gB : Bk) (A : Nat → Prop) : Array Value → State → Outcome → State → Prop := va_Qi (fun (r : Int32) (_ : Unit) => ((-1) ≤ r.toInt ∧ r.toInt ≤ 23) ∧ ((r.toInt = -1 ∧ bC gB p0.toInt.toNat p1.toInt.toNat = []) ∨ (0 ≤ r.toInt ∧ (bC gB p0.toInt.toNat p1.toInt.toNat).headD 0 = r.toInt.toNat ∧ bC gB p0.toInt.toNat p1.toInt.toNat ≠ []))) (fun _ t => gq D A (xw ad kk V L Z) (xty kk Z) t) A
set_option maxHeartbeats 4000000 in
set_option maxRecDepth 100000 in
theorem x_firstCandidate9 (l : Launch) (D : va_G) (ks : KS) (sz : Nat) (ad : Nat → Nat) (kk : Nat → ClassId) (V : Vf) (L : Lf) (Z : XZ) (p0 : Int32) (p1 : Int32) (b : Nat) (gB : Bk) (hMV : rgd bX V) (rg_p0 : 0 ≤ p0.toInt ∧ p0.toInt ≤ 23) (rg_p1 : 0 ≤ p1.toInt ∧ p1.toInt ≤ 7) (hb2 : b < 2) (bc : BKc V b gB) (cp9 : p0.toInt.toNat < nC gB) (jp9 : p1.toInt.toNat < bN gB p0.toInt.toNat)  : Met l yX0_firstCandidate (Cond.code yX0_firstCandidate cX0_firstCandidate 4 (some .int) :: GW) r_x_firstCandidate9 (va_Pc [.ref (ad (38 + b)), .int p0, .int p1] (gp D ks (xw ad kk V L Z) (xty kk Z) sz)) (q_x_firstCandidate9 D ks ad kk V L Z p0 p1 b gB (va_A (xw ad kk V L Z) sz)) 0 0 (va_A (xw ad kk V L Z) sz) := by
  refine g_met (q_x_firstCandidate9 D ks ad kk V L Z p0 p1 b gB) (by decide) (Nat.le_of_ble_eq_true rfl) ?_
  intro p e s m below meth c A ls H locs hx hb hr hml hown hg hlocks hin hnw hgk hP hK hD hS hA hl
  have hown : s.vm.findClass RX0 = some m.cls := hown
  have hl : lv_has ls 4 [(0, .ref (ad (38 + b))), (1, .int p0), (2, .int p1)] := hl
  have hP : va_P D vwCl (xw ad kk V L Z) H := hP
  have hD : va_D A (xw ad kk V L Z) := hD
  have hK : va_K D vwCl (xty kk Z) s := hK
  have ln9 : (V 43 (5 * b + 2)).toInt = (((gB.1.2.1 2).length : Nat) : Int) := bc.2.2.2.1.1
  have n24 : (gB.1.2.1 2).length ≤ 24 := bc.2.2.2.1.2.1
  have wh := bc.2.2.2.2.2.2.1.1
  have ky9 := i_clamp (x := p0) rfl (by (first | exact om_eafa9039069c rg_p0.1 | omega))
  have kj9 := i_clamp (x := p1) rfl (by (first | exact om_eafa9039069c rg_p1.1 | omega))
  have gk9 : (Int32.toNatClampNeg p0) < (gB.1.2.1 2).length := cp9
  have gj9 : (Int32.toNatClampNeg p1) < gB.1.1 (66 + 8 * (Int32.toNatClampNeg p0)) := jp9
  refine lv_aload_n hx hb dX0_firstCandidate_0 rfl (lv_at hl 0 rfl) ?_
  refine lv_iload_n hx hb dX0_firstCandidate_1 rfl (lv_at hl 1 rfl) ?_
  refine lv_iload_n hx hb dX0_firstCandidate_2 rfl (lv_at hl 2 rfl) ?_
  have r1 : 0 ≤ ((V 43 (5 * b + 2))).toInt ∧ ((V 43 (5 * b + 2))).toInt ≤ ((xcap (5 * b + 2) : Nat) : Int) := hMV 43 (5 * b + 2)
  have r2 : xcap (5 * b + 2) = 24 := xcap_2
  refine gA_int (gA_runV (As := [.int p0, .int p1]) (rest := []) (ci := 0) (q0 := (38 + b)) hx hb hml hown hg hP hD hK hS hA hnw hgk (x_candidates5 l D ks H.size ad kk V L Z p0 p1 (b) (gB.1) ((Int32.toNatClampNeg p0)) ((Int32.toNatClampNeg p1)) hMV (by first | exact om_e3ccf8139e22 rg_p0.1 n24 ky9 gk9 | first | omega | ((try (have i_jp9 := Imp.go jp9 (by omega))); (try (have i_cp9 := Imp.go cp9 (by omega))); (try (have i_bc := Imp.go bc (by omega))); (try (have i_bc := Imp.go bc (by omega))); (try (have i_cp9 := Imp.go cp9 (by omega))); (try (have i_jp9 := Imp.go jp9 (by omega))); omega)) (by first | exact om_8da659b97699 rg_p1.1 rg_p1.2 | first | omega | ((try (have i_jp9 := Imp.go jp9 (by omega))); (try (have i_cp9 := Imp.go cp9 (by omega))); (try (have i_bc := Imp.go bc (by omega))); (try (have i_bc := Imp.go bc (by omega))); (try (have i_cp9 := Imp.go cp9 (by omega))); (try (have i_jp9 := Imp.go jp9 (by omega))); omega)) (show b < 2 from by first | exact om_f940a4667dd6 hb2 | first | omega | ((try (have i_jp9 := Imp.go jp9 (by omega))); (try (have i_cp9 := Imp.go cp9 (by omega))); (try (have i_bc := Imp.go bc (by omega))); (try (have i_bc := Imp.go bc (by omega))); (try (have i_cp9 := Imp.go cp9 (by omega))); (try (have i_jp9 := Imp.go jp9 (by omega))); omega)) (show p0.toInt = ((Int32.toNatClampNeg p0) : Int) from by first | exact om_dadc9969542e ky9 | first | omega | ((try (have i_jp9 := Imp.go jp9 (by omega))); (try (have i_cp9 := Imp.go cp9 (by omega))); (try (have i_bc := Imp.go bc (by omega))); (try (have i_bc := Imp.go bc (by omega))); (try (have i_cp9 := Imp.go cp9 (by omega))); (try (have i_jp9 := Imp.go jp9 (by omega))); omega)) (show p1.toInt = ((Int32.toNatClampNeg p1) : Int) from by first | exact om_dadc9969542e kj9 | first | omega | ((try (have i_jp9 := Imp.go jp9 (by omega))); (try (have i_cp9 := Imp.go cp9 (by omega))); (try (have i_bc := Imp.go bc (by omega))); (try (have i_bc := Imp.go bc (by omega))); (try (have i_cp9 := Imp.go cp9 (by omega))); (try (have i_jp9 := Imp.go jp9 (by omega))); omega)) (bc).2.2.2.1.2.2 wh gk9 gj9 (show (V 43 (5 * b + 2)).toInt = ((((gB.1).2.1 2).length : Nat) : Int) from by first | exact om_256580d80fac ln9 | first | omega | ((try (have i_jp9 := Imp.go jp9 (by omega))); (try (have i_cp9 := Imp.go cp9 (by omega))); (try (have i_bc := Imp.go bc (by omega))); (try (have i_bc := Imp.go bc (by omega))); (try (have i_cp9 := Imp.go cp9 (by omega))); (try (have i_jp9 := Imp.go jp9 (by omega))); omega))) w1451 w1082 w1083 w167 w1084 rfl (xgBook hb2) hdV_yX0_candidates ⟨Nat.le_of_ble_eq_true rfl, Nat.le_of_ble_eq_true rfl⟩ rfl hl.1 rfl (Nat.le_of_ble_eq_true rfl) dX0_firstCandidate_3 ⟨Nat.le_of_ble_eq_true rfl, Nat.le_of_ble_eq_true rfl⟩) hP hD hK hS hA (fun z3 u4 H locs w5 hP hD hK hS => ?_)
  obtain ⟨rgz3, t6⟩ := w5
  have rgz3 : 0 ≤ z3.toInt ∧ z3.toInt ≤ 16777215 := rgz3
  have t6 : FND z3 (gB.1).1 (svc V b ((gB.1).2.1 1).length) ((gB.1).1 (301 + 32 * (Int32.toNatClampNeg p0) + 4 * (Int32.toNatClampNeg p1))) ((gB.1).1 (300 + 32 * (Int32.toNatClampNeg p0) + 4 * (Int32.toNatClampNeg p1))) ((gB.1).1 (302 + 32 * (Int32.toNatClampNeg p0) + 4 * (Int32.toNatClampNeg p1))) ((gB.1).2.1 2).length := t6
  refine lv_istore_n (lv' := [(3, .int z3), (0, .ref (ad (38 + b))), (1, .int p0), (2, .int p1)]) hx hb dX0_firstCandidate_6 rfl hl (by decide) rfl (fun ls hl => ?_)
  have sb9 : SBL z3 (bC gB p0.toInt.toNat p1.toInt.toNat) := SBL.of (by have h9 := t6; rw [BKc.sv bc] at h9; exact h9) (by (first | exact om_c51a6401fccc rgz3.1 rgz3.2 | omega)) n24
  refine lv_iload_n hx hb dX0_firstCandidate_7 rfl (lv_at hl 0 rfl) ?_
  refine lv_if_ne (tgt := 15) hx hb dX0_firstCandidate_8 (by decide) (fun c7 => ?_) (fun c7 => ?_)
  · skip
    have f8 : z3.toInt ≠ 0 := b_neq rfl (by decide) c7
    obtain ⟨a9, tw9, et9⟩ := SBL.cons sb9 (by (first | exact om_dc4480632432 rgz3.1 f8 | omega))
    have a24 := sb9.2.2.2 a9 (by rw [et9]; exact List.mem_cons_self)
    have sb8 := sb9
    rw [et9] at sb8
    refine lv_iload_n hx hb dX0_firstCandidate_15 rfl (lv_at hl 0 rfl) ?_
    refine gE_int (g_runS (As := [.int z3]) (rest := []) (wc := []) (tc := []) hx hb hml hown hg gw_self hP hD hK hS hA hnw hgk [] [] (by decide) rfl rfl (x_nTZ10 l D ks H.size z3 (a9) (by first | exact om_64fe641f814d rgz3.1 rgz3.2 f8 | first | omega | ((try (have i_jp9 := Imp.go jp9 (by omega))); (try (have i_cp9 := Imp.go cp9 (by omega))); (try (have i_bc := Imp.go bc (by omega))); (try (have i_bc := Imp.go bc (by omega))); (try (have i_cp9 := Imp.go cp9 (by omega))); (try (have i_jp9 := Imp.go jp9 (by omega))); omega)) (SBL.lob sb8)) w1452 w1143 w175 w1144 hdS_yJ6_numberOfTrailingZeros_0f7a4 ⟨Nat.le_of_ble_eq_true rfl, Nat.le_of_ble_eq_true rfl⟩ rfl hl.1 rfl (Nat.le_of_ble_eq_true rfl) dX0_firstCandidate_16 ⟨Nat.le_of_ble_eq_true rfl, Nat.le_of_ble_eq_true rfl⟩) hP hD hK hS hA (fun z9 u10 H locs w11 hP hD hK hS => ?_)
    obtain ⟨rgz9, t12⟩ := w11
    have rgz9 : 0 ≤ z9.toInt ∧ z9.toInt ≤ 32 := rgz9
    have t12 : z9.toInt = ((a9 : Nat) : Int) := t12
    exact W.iret (v := z9) hx hb hr (fun t ht hW => ⟨⟨z9, (), rfl, ⟨(show (-1) ≤ z9.toInt ∧ z9.toInt ≤ 23 from by first | exact om_f24241c1d031 a24 t12 | first | omega | ((try (have i_jp9 := Imp.go jp9 (by omega))); (try (have i_cp9 := Imp.go cp9 (by omega))); (try (have i_bc := Imp.go bc (by omega))); (try (have i_bc := Imp.go bc (by omega))); (try (have i_cp9 := Imp.go cp9 (by omega))); (try (have i_jp9 := Imp.go jp9 (by omega))); omega)), (Or.inr ⟨by (first | exact om_616d213e490e a24 t12 | omega), by rw [et9]; show a9 = _; (first | exact om_73fdf9006197 a24 t12 | omega), by rw [et9]; exact fun h9 => by cases h9⟩)⟩, by rw [ht]; exact hP, va_K.moved hW.alike hK, hD⟩, hS.F ht⟩) hS.2.2 dX0_firstCandidate_19
  · skip
    have f13 : z3.toInt = 0 := b_eq rfl (by decide) c7
    refine lv_iconst (v := (-1)) hx hb dX0_firstCandidate_11 (by decide) ?_
    refine lv_goto (tgt := 19) hx hb dX0_firstCandidate_12 (by decide) ?_
    exact W.iret (v := (-1)) hx hb hr (fun t ht hW => ⟨⟨(-1), (), rfl, ⟨(by decide), (Or.inl ⟨rfl, SBL.nil sb9 (by (first | exact om_b66ba74381d5 f13 | omega))⟩)⟩, by rw [ht]; exact hP, va_K.moved hW.alike hK, hD⟩, hS.F ht⟩) hS.2.2 dX0_firstCandidate_19
abbrev r_x_endWork9 : Room := { frames := 1, cells := 0, slots := 0, locals := 20 }
abbrev q_x_endWork9 (D : va_G) (ks : KS) (ad : Nat → Nat) (kk : Nat → ClassId) (V : Vf) (L : Lf) (Z : XZ) (b : Nat) (gf : Nat) (A : Nat → Prop) : Array Value → State → Outcome → State → Prop := va_Qv (fun (u : Vf × Lf) => rgd bX u.1 ∧ agr [(5, 6), (5, 7)] [] V u.1 ∧ u.2 = L ∧ (MJ u.1 Z b) ∧ (((True) ∧ u.1 = (up2 (up2 V 5 7 (V 85 gf)) 5 6 (V 5 6 - 1))))) (fun u t => gq D A (xw ad kk u.1 u.2 Z) (xty kk Z) t) A
set_option maxHeartbeats 4000000 in
set_option maxRecDepth 100000 in
theorem x_endWork9 (l : Launch) (D : va_G) (ks : KS) (sz : Nat) (ad : Nat → Nat) (kk : Nat → ClassId) (V : Vf) (L : Lf) (Z : XZ) (b : Nat) (gf : Nat) (hMV : rgd bX V) (hb2 : b < 2) (hgf : gf < Z.nf) (mo : MO V Z b gf True False True) (gd : (gf : Int) + 1 = (V 5 6).toInt) (gk : (V 67 gf).toInt = 4)  : Met l yX5_endWork (Cond.code yX5_endWork cX5_endWork 2 none :: GW) r_x_endWork9 (va_Pc [.ref (ad 5), .ref (Z.fa gf)] (gp D ks (xw ad kk V L Z) (xty kk Z) sz)) (q_x_endWork9 D ks ad kk V L Z  b gf (va_A (xw ad kk V L Z) sz)) 0 0 (va_A (xw ad kk V L Z) sz) := by
  refine g_met (q_x_endWork9 D ks ad kk V L Z  b gf) (by decide) (Nat.le_of_ble_eq_true rfl) ?_
  intro p e s m below meth c A ls H locs hx hb hr hml hown hg hlocks hin hnw hgk hP hK hD hS hA hl
  have hown : s.vm.findClass RX5 = some m.cls := hown
  have hl : lv_has ls 2 [(0, .ref (ad 5)), (1, .ref (Z.fa gf))] := hl
  have hP : va_P D vwCl (xw ad kk V L Z) H := hP
  have hD : va_D A (xw ad kk V L Z) := hD
  have hK : va_K D vwCl (xty kk Z) s := hK
  have agV : agr [(5, 6), (5, 7)] [] V V := agr.rf
  have r1 : 0 ≤ ((V 5 6)).toInt ∧ ((V 5 6)).toInt ≤ 400 := hMV 5 6
  have kdp := i_clamp (x := V 5 6) rfl (by (first | exact om_c66f1b494bd9 gd | omega))
  have hdn : (gf : Int) + 1 ≤ (Z.nf : Int) := by (first | exact om_29efded833ec hgf | omega)
  have mup := MO.up mo
  have msz := mup.1
  have mbk := mup.2.2.2.1
  obtain ⟨xk, fk⟩ := MO.fk mo
  have r2 : (-1) ≤ ((V 71 gf)).toInt ∧ ((V 71 gf)).toInt ≤ 23 := hMV 71 gf
  have r3 : 0 ≤ ((V 75 gf)).toInt ∧ ((V 75 gf)).toInt ≤ 12 := hMV 75 gf
  have r4 : 0 ≤ ((V 80 gf)).toInt ∧ ((V 80 gf)).toInt ≤ 300 := hMV 80 gf
  have r5 : 0 ≤ ((V 84 gf)).toInt ∧ ((V 84 gf)).toInt ≤ 2147483647 := hMV 84 gf
  have r6 : 0 ≤ ((V 5 8)).toInt ∧ ((V 5 8)).toInt ≤ 300 := hMV 5 8
  have r7 : 0 ≤ ((V 5 9)).toInt ∧ ((V 5 9)).toInt ≤ 3 := hMV 5 9
  have r8 : 0 ≤ ((V 3 13)).toInt ∧ ((V 3 13)).toInt ≤ 300 := hMV 3 13
  have r9 : 0 ≤ ((V 43 (5 * b + 2))).toInt ∧ ((V 43 (5 * b + 2))).toInt ≤ ((xcap (5 * b + 2) : Nat) : Int) := hMV 43 (5 * b + 2)
  have r10 : xcap (5 * b + 2) = 24 := xcap_2
  have r11 : 0 ≤ ((V 41 b)).toInt ∧ ((V 41 b)).toInt ≤ 12 := hMV 41 b
  have r12 : 0 ≤ ((V 42 b)).toInt ∧ ((V 42 b)).toInt ≤ 8200 := hMV 42 b
  have fc := fk.1 (by (first | exact om_85c82c20915f gk | omega))
  have fo := fk.2.1 (by (first | exact om_85c82c20915f gk | omega)) (by (first | exact om_d505340b4edb gk | omega))
  have ft := fk.2.2.1 (by (first | exact om_c88e7ce0b8a2 gk | omega))
  have fq := fk.2.2.2.1 (by (first | exact om_c88e7ce0b8a2 gk | omega))
  refine lv_aload_n hx hb dX5_endWork_0 rfl (lv_at hl 0 rfl) ?_
  refine lv_aload_n hx hb dX5_endWork_1 rfl (lv_at hl 1 rfl) ?_
  refine va_getN (D := D) (ci := 4) (v := .int (V 85 gf)) (fs := (xfFrame V gf)) (C := RX4) (T := TX4) (N := 19) hx hb hg inX4 hown hK hP (336 + gf) (xgFrame hgf) rfl 18 (by decide) (hnw.use 1207 n1207 rfl) (fun _ h9 => h9) rfl dX5_endWork_2 ?_
  have r13 : 0 ≤ ((V 85 gf)).toInt ∧ ((V 85 gf)).toInt ≤ 2048 := hMV 85 gf
  refine va_put (D := D) (ci := 5) (v := .int (V 85 gf)) (ty := tyX5 7) (fs := (xfMachine ad V L Z)) (C := RX5) (T := TX5) (N := 15) hx hb hg inX5 tyX5 tyX5_ok nmX5 hown hK hP hD hS 5 xgMachine rfl 7 (by decide) (hg _ w674) (fun _ h9 => h9) rfl (tyX5_ok 7 (by decide)) rfl rfl (Nat.le_of_ble_eq_true rfl) dX5_endWork_5 (fun H locs hP hD hS => ?_)
  obtain ⟨V14, hV14⟩ : ∃ z, z = up2 V 5 7 (V 85 gf) := ⟨_, rfl⟩
  have ew15 : (xw ad kk V L Z).set 5 ((ad 5), .inr (5, (xfMachine ad V L Z).set 7 (.int (V 85 gf)))) = xw ad kk V14 L Z := by rw [hV14]; exact xw_ss (by decide) rfl (xb_si (by decide))
  have hP : va_P D vwCl (xw ad kk V14 L Z) H := by rw [← ew15]; exact hP
  have hD : va_D A (xw ad kk V14 L Z) := by rw [← ew15]; exact hD
  have hMV14 : rgd bX V14 := hMV.put hV14 (show 0 ≤ ((V 85 gf)).toInt ∧ ((V 85 gf)).toInt ≤ 2048 from by first | exact om_01b7a0d43c7e r13.1 r13.2 | first | omega | ((try (have i_mo := Imp.go mo (by omega))); omega))
  have agV14 : agr [(5, 6), (5, 7)] [] V V14 := agV.up hV14 rfl
  refine lv_aload_n hx hb dX5_endWork_8 rfl (lv_at hl 0 rfl) ?_
  have pq16 : (V14 5 6).toInt = ((V 5 6)).toInt := congrArg Int32.toInt (up2_k hV14 (by decide))
  refine gA_void (gA_runV (As := []) (rest := []) (ci := 5) (q0 := 5) hx hb hml hown hg hP hD hK hS hA hnw hgk (x_leave9 l D ks H.size ad kk V14 L Z  hMV14 (show 1 ≤ (V14 5 6).toInt from by first | exact om_0cac171fa40c gd pq16 | first | omega | ((try (have i_mo := Imp.go mo (by omega))); omega))) w1308 w1310 w50 w171 w1311 rfl xgMachine hdV_yX5_leave ⟨Nat.le_of_ble_eq_true rfl, Nat.le_of_ble_eq_true rfl⟩ rfl hl.1 rfl (Nat.le_of_ble_eq_true rfl) dX5_endWork_9 ⟨Nat.le_of_ble_eq_true rfl, Nat.le_of_ble_eq_true rfl⟩) hP hD hK hS hA (fun u18 H locs w19 hP hD hK hS => ?_)
  obtain ⟨V22, L23⟩ := u18
  obtain ⟨hMV22, ajV22, axL23, t20, t21⟩ := w19
  have axL23 : L = L23 := Eq.symm axL23
  subst axL23
  have hP : va_P D vwCl (xw ad kk V22 L Z) H := hP
  have hD : va_D A (xw ad kk V22 L Z) := hD
  have hMV22 : rgd bX V22 := hMV22
  have ajV22 : agr [(5, 6)] [] V14 V22 := ajV22
  have agV22 : agr [(5, 6), (5, 7)] [] V V22 := agV14.tr ajV22 (by decide) (by decide)
  have t20 : (V22 5 6).toInt = (V14 5 6).toInt - 1 := t20
  have t21 : ((True) ∧ V22 = (up2 V14 5 6 (V14 5 6 - 1))) := t21
  have r24 : 0 ≤ ((V22 5 6)).toInt ∧ ((V22 5 6)).toInt ≤ 400 := hMV22 5 6
  have hw25 := t21.2
  obtain ⟨z26, ez26⟩ : ∃ y : Int32, y = V14 5 6 - 1 := ⟨_, rfl⟩
  have hz26 : z26.toInt = (V14 5 6).toInt - 1 := i_sub ez26 rfl (by decide) (by first | exact om_27f670172627 gd r1.2 pq16 | first | omega | ((try (have i_mo := Imp.go mo (by omega))); omega))
  have hV22 : V22 = up2 V14 5 6 z26 := by rw [hw25, ez26]
  have me27 : ME V V22 gf := (ME.up (ME.up ME.rf hV14 (Or.inr (by (first | exact om_8193a90fcd76  | omega)))) hV22 (Or.inr (by (first | exact om_f481bd0f1cda  | omega))))
  have pq28 : (V22 67 gf).toInt = ((V 67 gf)).toInt := congrArg Int32.toInt ((up2_o hV22 (by decide)).trans (up2_o hV14 (by decide)))
  have pq29 : (V22 68 gf).toInt = ((V 68 gf)).toInt := congrArg Int32.toInt ((up2_o hV22 (by decide)).trans (up2_o hV14 (by decide)))
  have pq30 : (V22 70 gf).toInt = ((V 70 gf)).toInt := congrArg Int32.toInt ((up2_o hV22 (by decide)).trans (up2_o hV14 (by decide)))
  have pq31 : (V22 71 gf).toInt = ((V 71 gf)).toInt := congrArg Int32.toInt ((up2_o hV22 (by decide)).trans (up2_o hV14 (by decide)))
  have pq32 : (V22 75 gf).toInt = ((V 75 gf)).toInt := congrArg Int32.toInt ((up2_o hV22 (by decide)).trans (up2_o hV14 (by decide)))
  have pq33 : (V22 76 gf).toInt = ((V 76 gf)).toInt := congrArg Int32.toInt ((up2_o hV22 (by decide)).trans (up2_o hV14 (by decide)))
  have pq34 : (V22 80 gf).toInt = ((V 80 gf)).toInt := congrArg Int32.toInt ((up2_o hV22 (by decide)).trans (up2_o hV14 (by decide)))
  have pq35 : (V22 84 gf).toInt = ((V 84 gf)).toInt := congrArg Int32.toInt ((up2_o hV22 (by decide)).trans (up2_o hV14 (by decide)))
  have pq36 : (V22 5 6).toInt = z26.toInt := congrArg Int32.toInt (up2_s hV22)
  have pq37 : (V22 5 8).toInt = ((V 5 8)).toInt := congrArg Int32.toInt ((up2_k hV22 (by decide)).trans (up2_k hV14 (by decide)))
  have pq38 : (V22 5 9).toInt = ((V 5 9)).toInt := congrArg Int32.toInt ((up2_k hV22 (by decide)).trans (up2_k hV14 (by decide)))
  have pq39 : (V22 3 13).toInt = ((V 3 13)).toInt := congrArg Int32.toInt ((up2_o hV22 (by decide)).trans (up2_o hV14 (by decide)))
  have pq40 : (V22 43 (5 * b + 2)).toInt = ((V 43 (5 * b + 2))).toInt := congrArg Int32.toInt ((up2_o hV22 (by decide)).trans (up2_o hV14 (by decide)))
  have pq41 : (V22 42 b).toInt = ((V 42 b)).toInt := congrArg Int32.toInt ((up2_o hV22 (by decide)).trans (up2_o hV14 (by decide)))
  have pq42 : (V22 41 b).toInt = ((V 41 b)).toInt := congrArg Int32.toInt ((up2_o hV22 (by decide)).trans (up2_o hV14 (by decide)))
  have rp43 : MJ V22 Z b := MP.lv (MO.mp mo) me27 (by (first | exact om_dca0de52e899 gd pq16 hz26 pq36 | omega)) (fun _ => Or.inl (by (first | exact om_85c82c20915f gk | omega)))
  have q9 : z26 = V 5 6 - 1 := by rw [ez26, up2_k hV14 (by decide)]
  exact W.vret hx hb hr (fun t ht hW => ⟨⟨(V22, L), rfl, ⟨hMV22, agV22, rfl, rp43, (⟨trivial, by rw [hV22, hV14, q9] <;> rfl⟩)⟩, by rw [ht]; exact hP, va_K.moved hW.alike hK, hD⟩, hS.F ht⟩) hS.2.2 dX5_endWork_12
abbrev r_x_getLate9 (Z : XZ) : Room := { frames := 4, cells := zcc Z, slots := zss Z, locals := 90 }
abbrev q_x_getLate9 (D : va_G) (ks : KS) (ad : Nat → Nat) (kk : Nat → ClassId) (V : Vf) (L : Lf) (Z : XZ) (b : Nat) (gf : Nat) (gB : Bk) (gm : Mm) (ga : Int32) (gfr : Fr) (gr : List Fr) (A : Nat → Prop) : Array Value → State → Outcome → State → Prop := qZv D (fun (u : Vf × Lf × XZ) => rgd bX u.1 ∧ agr [(5, 6), (5, 9), (5, 11), (5, 12)] [67, 68, 69, 70, 71, 72, 73, 74, 75, 76, 77, 78, 79, 80, 81, 82, 83, 84, 85] V u.1 ∧ u.2.1 = L ∧ ZL Z u.2.2 ∧ (MJ u.1 u.2.2 b) ∧ (RW u.1 gB (lateM gB gm ga gr (V 69 gf).toInt (V 71 gf).toInt (V 72 gf).toInt (V 75 gf).toInt gfr))) (fun u => xw ad kk u.1 u.2.1 u.2.2) (fun u => xty kk u.2.2) (fun u => zcc Z - zcc u.2.2) (fun u => zss Z - zss u.2.2) A
set_option maxHeartbeats 4000000 in
set_option maxRecDepth 100000 in
theorem x_getLate9 (l : Launch) (D : va_G) (ks : KS) (sz : Nat) (ad : Nat → Nat) (kk : Nat → ClassId) (V : Vf) (L : Lf) (Z : XZ) (b : Nat) (gf : Nat) (gB : Bk) (gm : Mm) (ga : Int32) (gfr : Fr) (gr : List Fr) (hMV : rgd bX V) (hb2 : b < 2) (hgf : gf < Z.nf) (mo : MO V Z b gf True False True) (gd : (gf : Int) + 1 = (V 5 6).toInt) (gk : (V 67 gf).toInt = 4) (gph : (V 68 gf).toInt = 7) (rwq : RW V gB (gm, ga, gfr :: gr)) (bc : BKc V b gB) (sl8 : (V 5 6).toInt ≤ 395) (nb7 : (V 75 gf).toInt.toNat < bN gB (V 71 gf).toInt.toNat) (bcn : bC gB (V 71 gf).toInt.toNat (V 75 gf).toInt.toNat ≠ []) (lv9 : (V 69 gf).toInt ≤ 10)  : Met l yX5_getLate (Cond.code yX5_getLate cX5_getLate 3 none :: GW) (r_x_getLate9 Z) (va_Pc [.ref (ad 5), .ref (Z.fa gf)] (gp D ks (xw ad kk V L Z) (xty kk Z) sz)) (q_x_getLate9 D ks ad kk V L Z  b gf gB gm ga gfr gr (va_A (xw ad kk V L Z) sz)) (zcc Z) (zss Z) (va_A (xw ad kk V L Z) sz) := by
  refine g_met (q_x_getLate9 D ks ad kk V L Z  b gf gB gm ga gfr gr) (by decide) (Nat.le_of_ble_eq_true rfl) ?_
  intro p e s m below meth c A ls H locs hx hb hr hml hown hg hlocks hin hnw hgk hP hK hD hS hA hl
  have hown : s.vm.findClass RX5 = some m.cls := hown
  have hl : lv_has ls 3 [(0, .ref (ad 5)), (1, .ref (Z.fa gf))] := hl
  have hP : va_P D vwCl (xw ad kk V L Z) H := hP
  have hD : va_D A (xw ad kk V L Z) := hD
  have hK : va_K D vwCl (xty kk Z) s := hK
  have agV : agr [(5, 6), (5, 9), (5, 11), (5, 12)] [67, 68, 69, 70, 71, 72, 73, 74, 75, 76, 77, 78, 79, 80, 81, 82, 83, 84, 85] V V := agr.rf
  have zoZ : ZL Z Z := ZL.rf
  refine W.know (fun ka kb => ?_)
  refine W.tight (k := zcc Z - zcc Z) (n := zss Z - zss Z) (by (first | exact om_7244b830ee02 ka | omega)) (by (first | exact om_7244b830ee02 kb | omega)) ?_
  have r1 : 0 ≤ ((V 5 6)).toInt ∧ ((V 5 6)).toInt ≤ 400 := hMV 5 6
  have kdp := i_clamp (x := V 5 6) rfl (by (first | exact om_c66f1b494bd9 gd | omega))
  have hdn : (gf : Int) + 1 ≤ (Z.nf : Int) := by (first | exact om_29efded833ec hgf | omega)
  have mup := MO.up mo
  have msz := mup.1
  have mbk := mup.2.2.2.1
  obtain ⟨xk, fk⟩ := MO.fk mo
  have r2 : (-1) ≤ ((V 71 gf)).toInt ∧ ((V 71 gf)).toInt ≤ 23 := hMV 71 gf
  have r3 : 0 ≤ ((V 75 gf)).toInt ∧ ((V 75 gf)).toInt ≤ 12 := hMV 75 gf
  have r4 : 0 ≤ ((V 80 gf)).toInt ∧ ((V 80 gf)).toInt ≤ 300 := hMV 80 gf
  have r5 : 0 ≤ ((V 84 gf)).toInt ∧ ((V 84 gf)).toInt ≤ 2147483647 := hMV 84 gf
  have r6 : 0 ≤ ((V 5 8)).toInt ∧ ((V 5 8)).toInt ≤ 300 := hMV 5 8
  have r7 : 0 ≤ ((V 5 9)).toInt ∧ ((V 5 9)).toInt ≤ 3 := hMV 5 9
  have r8 : 0 ≤ ((V 3 13)).toInt ∧ ((V 3 13)).toInt ≤ 300 := hMV 3 13
  have r9 : 0 ≤ ((V 43 (5 * b + 2))).toInt ∧ ((V 43 (5 * b + 2))).toInt ≤ ((xcap (5 * b + 2) : Nat) : Int) := hMV 43 (5 * b + 2)
  have r10 : xcap (5 * b + 2) = 24 := xcap_2
  have r11 : 0 ≤ ((V 41 b)).toInt ∧ ((V 41 b)).toInt ≤ 12 := hMV 41 b
  have r12 : 0 ≤ ((V 42 b)).toInt ∧ ((V 42 b)).toInt ≤ 8200 := hMV 42 b
  have fc := fk.1 (by (first | exact om_85c82c20915f gk | omega))
  have fo := fk.2.1 (by (first | exact om_85c82c20915f gk | omega)) (by (first | exact om_d505340b4edb gk | omega))
  have ft := fk.2.2.1 (by (first | exact om_c88e7ce0b8a2 gk | omega))
  have fq := fk.2.2.2.1 (by (first | exact om_c88e7ce0b8a2 gk | omega))
  have fq7 := fq (by (first | exact om_703e44dcd62c gph | omega))
  have m1 : Int32.toInt (-1) = -1 := by decide
  have rw0 := rwq
  obtain ⟨⟨ow, rn⟩, rh, rd, tw9, rt9, rl⟩ := rw0
  have rn : RWn V ow gB gm := rn
  have rh : RWh V gm ga := rh
  have rd2 : (V 5 6).toInt = ((gr.length + 1 : Nat) : Int) := rd
  have gl9 : gr.length = gf := by (first | exact om_ec03263ced6a gd rd2 | omega)
  have sl9 : gr.length ≤ 394 := by (first | exact om_8b199089418a sl8 rd2 | omega)
  have rh1 : (V 5 9).toInt = gm 0 6 := rh.1
  have ra2 : (V 3 13).toInt = gm 0 2 := rn.1.1.2.2.1
  have rl0 := rl
  obtain ⟨t0, tl9, hf0, hbs9, hpl9, hlr⟩ := rl0
  rw [gl9] at hf0 hbs9
  rcases FRc.k4 hf0 gk with ⟨lv, o, c, sc, me, ps, at9, v, p, hfe⟩ | ⟨lv, o, c, sc, me, ps, at9, v, p, hfe⟩ | ⟨lv, o, c, sc, at9, nd, tg, v, g, p, hfe⟩ | ⟨lv, o, c, sc, at9, nd, tg, v, g, p, hfe⟩ | ⟨lv, o, c, sc, at9, nd, tg, it, v, g, u, p, hfe⟩
  · skip
    have hf : FRc V gB gf (Fwork lv o c sc me ps at9 v p) := by rw [← hfe]; exact hf0
    have tl8 : tw9 = t0 + (Fwork lv o c sc me ps at9 v p : Fr).2.2.2.length := by rw [← hfe]; exact tl9
    obtain ⟨⟨k67, k68⟩, hoc, hps9, ⟨a0, q84⟩, q74⟩ := hf
    obtain ⟨q69, ⟨q70, o0, o1⟩, ⟨q71, c0, c1⟩, ⟨q72, s0, s1⟩⟩ := hoc
    have cn9 : c.toNat < nC gB := by (first | exact om_c1a3edb80ae3 gph k68 | omega)
    have kc9 : Int32.toNatClampNeg (V 71 gf) = c.toNat := by have h9 := i_clamp (x := V 71 gf) rfl (by (first | exact om_b47624bf56d9 gph k68 | omega)); (first | exact om_25042bfbc662 gph k68 | omega)
    have ko9 : Int32.toNatClampNeg (V 70 gf) = o.toNat := by have h9 := i_clamp (x := V 70 gf) rfl (by (first | exact om_b47624bf56d9 gph k68 | omega)); (first | exact om_25042bfbc662 gph k68 | omega)
    have tl7 : tw9 = t0 + p.length := tl8
    have hb8 : (V 85 gf).toInt = (t0 : Int) := hbs9 (by rw [hfe]; exact (by decide : (12 : Nat) ≤ 12)) (by rw [hfe]; exact (by decide : (12 : Nat) ≤ 16))
    have hp8 : plC V tw9 p := by have h9 := hpl9; rw [hfe] at h9; exact h9
    exfalso; (first | exact om_81ddc7f3d9eb gph k68 | omega)
  · skip
    have hf : FRc V gB gf (Fwait lv o c sc me ps at9 v p) := by rw [← hfe]; exact hf0
    have tl8 : tw9 = t0 + (Fwait lv o c sc me ps at9 v p : Fr).2.2.2.length := by rw [← hfe]; exact tl9
    obtain ⟨⟨k67, k68⟩, hoc, hps9, ⟨a0, q84⟩, q74⟩ := hf
    obtain ⟨q69, ⟨q70, o0, o1⟩, ⟨q71, c0, c1⟩, ⟨q72, s0, s1⟩⟩ := hoc
    have cn9 : c.toNat < nC gB := by (first | exact om_f37b4a0a5bda gph k68 | omega)
    have kc9 : Int32.toNatClampNeg (V 71 gf) = c.toNat := by have h9 := i_clamp (x := V 71 gf) rfl (by (first | exact om_b275dcccebec gph k68 | omega)); (first | exact om_3171c0ed27ed gph k68 | omega)
    have ko9 : Int32.toNatClampNeg (V 70 gf) = o.toNat := by have h9 := i_clamp (x := V 70 gf) rfl (by (first | exact om_b275dcccebec gph k68 | omega)); (first | exact om_3171c0ed27ed gph k68 | omega)
    have tl7 : tw9 = t0 + p.length := tl8
    have hb8 : (V 85 gf).toInt = (t0 : Int) := hbs9 (by rw [hfe]; exact (by decide : (12 : Nat) ≤ 13)) (by rw [hfe]; exact (by decide : (13 : Nat) ≤ 16))
    have hp8 : plC V tw9 p := by have h9 := hpl9; rw [hfe] at h9; exact h9
    exfalso; (first | exact om_cc568be4f047 gph k68 | omega)
  · skip
    have hf : FRc V gB gf (Fask lv o c sc at9 nd tg v g p) := by rw [← hfe]; exact hf0
    have tl8 : tw9 = t0 + (Fask lv o c sc at9 nd tg v g p : Fr).2.2.2.length := by rw [← hfe]; exact tl9
    obtain ⟨⟨k67, k68⟩, hoc, ⟨a0, q84⟩, q75, q77, q74, q78⟩ := hf
    obtain ⟨q69, ⟨q70, o0, o1⟩, ⟨q71, c0, c1⟩, ⟨q72, s0, s1⟩⟩ := hoc
    have cn9 : c.toNat < nC gB := by (first | exact om_6775dbd1d247 gph k68 | omega)
    have kc9 : Int32.toNatClampNeg (V 71 gf) = c.toNat := by have h9 := i_clamp (x := V 71 gf) rfl (by (first | exact om_940f49224941 gph k68 | omega)); (first | exact om_ddf43e84e554 gph k68 | omega)
    have ko9 : Int32.toNatClampNeg (V 70 gf) = o.toNat := by have h9 := i_clamp (x := V 70 gf) rfl (by (first | exact om_940f49224941 gph k68 | omega)); (first | exact om_ddf43e84e554 gph k68 | omega)
    have tl7 : tw9 = t0 + p.length := tl8
    have hb8 : (V 85 gf).toInt = (t0 : Int) := hbs9 (by rw [hfe]; exact (by decide : (12 : Nat) ≤ 14)) (by rw [hfe]; exact (by decide : (14 : Nat) ≤ 16))
    have hp8 : plC V tw9 p := by have h9 := hpl9; rw [hfe] at h9; exact h9
    exfalso; (first | exact om_4b948b729b68 gph k68 | omega)
  · skip
    have hf : FRc V gB gf (Fget lv o c sc at9 nd tg v g p) := by rw [← hfe]; exact hf0
    have tl8 : tw9 = t0 + (Fget lv o c sc at9 nd tg v g p : Fr).2.2.2.length := by rw [← hfe]; exact tl9
    obtain ⟨⟨k67, k68⟩, hoc, ⟨a0, q84⟩, q75, q77, q74, q78⟩ := hf
    obtain ⟨q69, ⟨q70, o0, o1⟩, ⟨q71, c0, c1⟩, ⟨q72, s0, s1⟩⟩ := hoc
    have cn9 : c.toNat < nC gB := by (first | exact om_51a08a25bfb6 r2 fc q71 c1 | omega)
    have kc9 : Int32.toNatClampNeg (V 71 gf) = c.toNat := by have h9 := i_clamp (x := V 71 gf) rfl (by (first | exact om_762d7ad45f4b r2 fc q71 | omega)); (first | exact om_57d2b76748c0 r2 fc q71 h9 | omega)
    have ko9 : Int32.toNatClampNeg (V 70 gf) = o.toNat := by have h9 := i_clamp (x := V 70 gf) rfl (by (first | exact om_982736d7659e fo q70 | omega)); (first | exact om_20e87943cd78 fo q70 h9 | omega)
    have tl7 : tw9 = t0 + p.length := tl8
    have hb8 : (V 85 gf).toInt = (t0 : Int) := hbs9 (by rw [hfe]; exact (by decide : (12 : Nat) ≤ 15)) (by rw [hfe]; exact (by decide : (15 : Nat) ≤ 16))
    have hp8 : plC V tw9 p := by have h9 := hpl9; rw [hfe] at h9; exact h9
    have r77 : 0 ≤ (V 77 gf).toInt ∧ (V 77 gf).toInt ≤ 19 := hMV 77 gf
    refine lv_aload_n hx hb dX5_getLate_0 rfl (lv_at hl 1 rfl) ?_
    refine va_getN (D := D) (ci := 4) (v := .int (V 69 gf)) (fs := (xfFrame V gf)) (C := RX4) (T := TX4) (N := 19) hx hb hg inX4 hown hK hP (336 + gf) (xgFrame hgf) rfl 2 (by decide) (hnw.use 1191 n1191 rfl) (fun _ h9 => h9) rfl dX5_getLate_1 ?_
    refine lv_bipush (v := 10) hx hb dX5_getLate_4 (by decide) ?_
    refine lv_icmp_lt (tgt := 17) hx hb dX5_getLate_6 (by decide) (fun c13 => ?_) (fun c13 => ?_)
    · skip
      have f14 : ((V 69 gf)).toInt < 10 := b_lt rfl (by decide) c13
      have hl9 := lv9
      refine lv_aload_n hx hb dX5_getLate_17 rfl (lv_at hl 0 rfl) ?_
      refine va_get (D := D) (ci := 5) (v := .ref (ad (38 + Int32.toNatClampNeg (V 5 5)))) (fs := (xfMachine ad V L Z)) (C := RX5) (T := TX5) (N := 15) hx hb hg inX5 hown hK hP 5 xgMachine rfl 5 (by decide) (hg _ w672) (fun _ h9 => h9) rfl dX5_getLate_18 ?_
      have r15 : 0 ≤ ((V 5 5)).toInt ∧ ((V 5 5)).toInt ≤ 1 := hMV 5 5
      refine g_topv (v := .ref (ad (38 + b))) (rfP (by (first | exact om_c62f5505ba8e mup | omega))) ?_
      refine lv_aload_n hx hb dX5_getLate_21 rfl (lv_at hl 1 rfl) ?_
      refine va_getN (D := D) (ci := 4) (v := .int (V 71 gf)) (fs := (xfFrame V gf)) (C := RX4) (T := TX4) (N := 19) hx hb hg inX4 hown hK hP (336 + gf) (xgFrame hgf) rfl 4 (by decide) (hnw.use 1193 n1193 rfl) (fun _ h9 => h9) rfl dX5_getLate_22 ?_
      refine lv_aload_n hx hb dX5_getLate_25 rfl (lv_at hl 1 rfl) ?_
      refine va_getN (D := D) (ci := 4) (v := .int (V 75 gf)) (fs := (xfFrame V gf)) (C := RX4) (T := TX4) (N := 19) hx hb hg inX4 hown hK hP (336 + gf) (xgFrame hgf) rfl 8 (by decide) (hnw.use 1197 n1197 rfl) (fun _ h9 => h9) rfl dX5_getLate_26 ?_
      refine gA_int (gA_runV (As := [.int (V 71 gf), .int (V 75 gf)]) (rest := []) (ci := 0) (q0 := (38 + b)) hx hb hml hown hg hP hD hK hS hA hnw hgk (x_firstCandidate9 l D ks H.size ad kk V L Z (V 71 gf) (V 75 gf) (b) (gB) hMV (by (first | exact om_7ee2e48c2283 r2 fc q71 | omega)) (by (first | exact om_de100f96eefc r3 fq7 q75 | omega)) (show b < 2 from by (first | exact om_f940a4667dd6 hb2 | omega)) bc (show (V 71 gf).toInt.toNat < nC gB from by (first | exact om_3ea55f6eba18 r2 fc q71 c1 | omega)) nb7) w1447 w1448 w1449 w167 w1450 rfl (xgBook hb2) hdV_yX0_firstCandidate ⟨Nat.le_of_ble_eq_true rfl, Nat.le_of_ble_eq_true rfl⟩ rfl hl.1 rfl (Nat.le_of_ble_eq_true rfl) dX5_getLate_29 ⟨z0, z0⟩) hP hD hK hS hA (fun z16 u17 H locs w18 hP hD hK hS => ?_)
      obtain ⟨rgz16, t19⟩ := w18
      have rgz16 : (-1) ≤ z16.toInt ∧ z16.toInt ≤ 23 := rgz16
      have t19 : (z16.toInt = -1 ∧ bC gB ((V 71 gf)).toInt.toNat ((V 75 gf)).toInt.toNat = []) ∨ (0 ≤ z16.toInt ∧ (bC gB ((V 71 gf)).toInt.toNat ((V 75 gf)).toInt.toNat).headD 0 = z16.toInt.toNat ∧ bC gB ((V 71 gf)).toInt.toNat ((V 75 gf)).toInt.toNat ≠ []) := t19
      refine lv_istore_n (lv' := [(2, .int z16), (0, .ref (ad 5)), (1, .ref (Z.fa gf))]) hx hb dX5_getLate_32 rfl hl (by decide) rfl (fun ls hl => ?_)
      refine lv_aload_n hx hb dX5_getLate_33 rfl (lv_at hl 1 rfl) ?_
      refine lv_iload_n hx hb dX5_getLate_34 rfl (lv_at hl 0 rfl) ?_
      refine lv_aload_n hx hb dX5_getLate_35 rfl (lv_at hl 2 rfl) ?_
      refine va_getN (D := D) (ci := 4) (v := .int (V 72 gf)) (fs := (xfFrame V gf)) (C := RX4) (T := TX4) (N := 19) hx hb hg inX4 hown hK hP (336 + gf) (xgFrame hgf) rfl 5 (by decide) (hnw.use 1194 n1194 rfl) (fun _ h9 => h9) rfl dX5_getLate_36 ?_
      have r20 : 0 ≤ ((V 72 gf)).toInt ∧ ((V 72 gf)).toInt ≤ 39 := hMV 72 gf
      refine lv_aload_n hx hb dX5_getLate_39 rfl (lv_at hl 2 rfl) ?_
      refine va_getN (D := D) (ci := 4) (v := .int (V 69 gf)) (fs := (xfFrame V gf)) (C := RX4) (T := TX4) (N := 19) hx hb hg inX4 hown hK hP (336 + gf) (xgFrame hgf) rfl 2 (by decide) (hnw.use 1191 n1191 rfl) (fun _ h9 => h9) rfl dX5_getLate_40 ?_
      refine lv_iconst (v := 1) hx hb dX5_getLate_43 (by decide) ?_
      refine lv_iadd hx hb dX5_getLate_44 ?_
      have r21 := i_full (V 69 gf)
      refine lv_topi (fun z22 ez22 => ?_)
      have hz22 : z22.toInt = ((V 69 gf)).toInt + 1 := i_add ez22 rfl (by decide) (by (first | exact om_8b75a7fb4f8e f14 r21.1 | omega))
      have mt23 : MTr V Z b := MO.mtr mo (by (first | exact om_c09d41618ed8 hgf | omega)) (by (first | exact om_6815fc1b8223 gd | omega))
      refine W.know (fun k25 k26 => ?_)
      obtain ⟨Hk24, hHk24⟩ : ∃ z, z = H := ⟨_, rfl⟩
      have k25 : Hk24.size ≤ s.heap.size + (zcc Z - zcc Z) := by rw [hHk24]; exact k25
      have k26 : tot Hk24 ≤ tot s.heap + (zss Z - zss Z) := by rw [hHk24]; exact k26
      refine gZ_void (gA_runV (As := [.int z16, .int (V 72 gf), .int z22]) (rest := []) (ci := 5) (q0 := 5) hx hb hml hown hg hP hD hK hS hA hnw hgk (x_pushRoot9 l D ks H.size ad kk V L Z z16 (V 72 gf) z22 (b) hMV (by (first | exact om_b5ea211f5a81 rgz16.1 rgz16.2 | omega)) (by (first | exact om_13ba01c174fe r20.1 r20.2 | omega)) (show b < 2 from by (first | exact om_f940a4667dd6 hb2 | omega)) mt23) w1453 w1177 w1178 w171 w1179 rfl xgMachine hdV_yX5_pushRoot ⟨Nat.le_of_ble_eq_true rfl, Nat.le_of_ble_eq_true rfl⟩ rfl hl.1 rfl (Nat.le_of_ble_eq_true rfl) dX5_getLate_45 ⟨z1 zoZ.1, z1 zoZ.2.1⟩) hD hS hA (fun u28 H locs w29 hP hD hK hS y30 y31 => ?_)
      obtain ⟨V32, L33, Z34⟩ := u28
      obtain ⟨hMV32, ajV32, axL33, zlZ34, t36, t37⟩ := w29
      have axL33 : L = L33 := Eq.symm axL33
      subst axL33
      have hP : va_P D vwCl (xw ad kk V32 L Z34) H := hP
      have hD : va_D A (xw ad kk V32 L Z34) := hD
      have hK : va_K D vwCl (xty kk Z34) s := hK
      have hMV32 : rgd bX V32 := hMV32
      have ajV32 : agr [(5, 6), (5, 9)] [67, 68, 69, 70, 71, 72, 73, 74, 75, 76, 77, 78, 79, 80, 81, 82, 83, 84, 85] V V32 := ajV32
      have agV32 : agr [(5, 6), (5, 9), (5, 11), (5, 12)] [67, 68, 69, 70, 71, 72, 73, 74, 75, 76, 77, 78, 79, 80, 81, 82, 83, 84, 85] V V32 := agV.tr ajV32 (by decide) (by decide)
      have zlZ34 : ZL Z Z34 := zlZ34
      have zoZ34 : ZL Z Z34 := ZL.tr zoZ zlZ34
      have ziZ34 := zlZ34.1
      have zjZ34 := zlZ34.2.1
      have zkZ34 := zlZ34.2.2.1
      have zmZ34 := zoZ34.1
      have znZ34 := zoZ34.2.1
      have zpZ_Z34 := zoZ.1
      have zqZ_Z34 := zoZ.2.1
      have y30 : H.size ≤ Hk24.size + (zcc Z - zcc Z34) := by rw [hHk24]; exact y30
      have y31 : tot H ≤ tot Hk24 + (zss Z - zss Z34) := by rw [hHk24]; exact y31
      refine W.tight (k := zcc Z - zcc Z34) (n := zss Z - zss Z34) (by first | exact tg9 y30 k25 zlZ34.1 zoZ.1 | omega) (by first | exact tg9 y31 k26 zlZ34.2.1 zoZ.2.1 | omega) ?_
      have hl : lv_has ls 3 [(2, .int z16), (0, .ref (ad 5)), (1, .ref (Z34.fa gf))] := by rw [zlZ34.2.2.2.2 gf hgf]; exact hl
      have t36 : MJ V32 Z34 b := t36
      have t37 : Imp ((V 5 6).toInt < 400) (PRo V V32 ((V 5 6).toInt.toNat) z16 (V 72 gf) z22) := t37
      have pw := Imp.go t37 (by (first | exact om_ac64a06af8c0 sl8 | omega))
      have pi9 : (V 5 6).toInt.toNat = gr.length + 1 := by (first | exact om_0497f55c2193 gd rd2 | omega)
      rw [pi9] at pw
      obtain ⟨⟨pd1, pd2, pke⟩, ⟨pk1, pk2⟩, p69, p71, p72, p80, p83⟩ := pw
      have wr39 := congrArg Int32.toInt p69
      have wr40 := congrArg Int32.toInt p71
      have wr41 := congrArg Int32.toInt p72
      have wr42 := congrArg Int32.toInt p80
      have fd9 := t19.resolve_left (fun h9 => bcn h9.2)
      have hd9 := bC_hd bcn
      have hd8 := fd9.2.1
      have rh8 : (V 5 8).toInt = gm 0 4 := rh.2.2.2.1
      have wr43 : (V32 3 13).toInt = (V 3 13).toInt := congrArg Int32.toInt (ajV32 3 13 rfl)
      have wr44 : (V32 3 12).toInt = (V 3 12).toInt := congrArg Int32.toInt (ajV32 3 12 rfl)
      have wr45 : (V32 67 gf).toInt = ((V 67 gf)).toInt := (congrArg Int32.toInt (pke gf (by (first | exact om_c9f168eff5a6 gd kdp rd rd2 | omega)) 67 (by decide) (by decide)))
      have wr46 : (V32 68 gf).toInt = ((V 68 gf)).toInt := (congrArg Int32.toInt (pke gf (by (first | exact om_c9f168eff5a6 gd kdp rd rd2 | omega)) 68 (by decide) (by decide)))
      have wr47 : (V32 69 gf).toInt = ((V 69 gf)).toInt := (congrArg Int32.toInt (pke gf (by (first | exact om_c9f168eff5a6 gd kdp rd rd2 | omega)) 69 (by decide) (by decide)))
      have wr48 : (V32 70 gf).toInt = ((V 70 gf)).toInt := (congrArg Int32.toInt (pke gf (by (first | exact om_c9f168eff5a6 gd kdp rd rd2 | omega)) 70 (by decide) (by decide)))
      have wr49 : (V32 71 gf).toInt = ((V 71 gf)).toInt := (congrArg Int32.toInt (pke gf (by (first | exact om_c9f168eff5a6 gd kdp rd rd2 | omega)) 71 (by decide) (by decide)))
      have wr50 : (V32 72 gf).toInt = ((V 72 gf)).toInt := (congrArg Int32.toInt (pke gf (by (first | exact om_c9f168eff5a6 gd kdp rd rd2 | omega)) 72 (by decide) (by decide)))
      have wr51 : (V32 75 gf).toInt = ((V 75 gf)).toInt := (congrArg Int32.toInt (pke gf (by (first | exact om_c9f168eff5a6 gd kdp rd rd2 | omega)) 75 (by decide) (by decide)))
      have wr52 : (V32 77 gf).toInt = ((V 77 gf)).toInt := (congrArg Int32.toInt (pke gf (by (first | exact om_c9f168eff5a6 gd kdp rd rd2 | omega)) 77 (by decide) (by decide)))
      have wr53 : (V32 84 gf).toInt = ((V 84 gf)).toInt := (congrArg Int32.toInt (pke gf (by (first | exact om_c9f168eff5a6 gd kdp rd rd2 | omega)) 84 (by decide) (by decide)))
      have rl54 : RWl V32 gB gr t0 := RWl.mv hlr (fun i9 hi9 c9 h1 h2 => (pke i9 (by (first | exact om_f2749feee9bd kdp rd rd2 pi9 pd1 hi9 | omega)) c9 h1 h2)) (fun j9 hj9 => (ajV32 39 j9 rfl)) (by rw [(ajV32 3 13 rfl)]; exact Int.le_refl _) (ajV32 3 12 rfl)
      have fo8 : FRc V32 gB gr.length (Fget lv o c sc at9 nd tg v g p) := by rw [gl9]; exact ⟨⟨by (first | exact om_ac6651f4ff0c gk wr45 | omega), by (first | exact om_e2de96038fd4 gph wr46 | omega)⟩, ⟨by (first | exact om_aec089a35064 q69 hz22 wr39 wr47 | omega), ⟨by (first | exact om_cd7d0a6a31bc q70 wr48 | omega), by (first | exact om_72c355b130f5 fo q70 wr48 | omega), by (first | exact om_be0131eba9cf fo ra2 q70 wr43 wr48 | omega)⟩, ⟨by (first | exact om_cd7d0a6a31bc q71 wr49 | omega), by (first | exact om_50e3d3ad91f5 r2 fc q71 wr49 | omega), by (first | exact om_e52dd4456e8b q71 c1 wr49 | omega)⟩, ⟨by (first | exact om_25a0d8f2ad9d q72 wr41 wr50 | omega), by (first | exact om_de6fd5db258c q72 r20 wr41 wr50 | omega), by omega⟩⟩, ⟨a0, by (first | exact om_ac4971a78455 q84 wr53 | omega)⟩, by (first | exact om_cd7d0a6a31bc q75 wr51 | omega), by (first | exact om_cd7d0a6a31bc q77 wr52 | omega), ((pke gf (by (first | exact om_c9f168eff5a6 gd kdp rd rd2 | omega)) 74 (by decide) (by decide)).trans q74), ((pke gf (by (first | exact om_c9f168eff5a6 gd kdp rd rd2 | omega)) 78 (by decide) (by decide)).trans q78)⟩
      have rl55 : RWl V32 gB (Fget lv o c sc at9 nd tg v g p :: gr) tw9 := ⟨t0, tl7, fo8, fun _ _ => (by rw [gl9, (pke gf (by (first | exact om_c9f168eff5a6 gd kdp rd rd2 | omega)) 85 (by decide) (by decide))]; exact hb8), plC.mv hp8 (fun j9 _ => (show agr [(5, 6), (5, 9)] [67, 68, 69, 70, 71, 72, 73, 74, 75, 76, 77, 78, 79, 80, 81, 82, 83, 84, 85] V V32 from (agr.tr agr.rf ajV32 (by decide) (by decide))) 39 j9 rfl), rl54⟩
      have ft9 : FRc V32 gB (gr.length + 1) (Froot0 ((V 69 gf).toInt + 1) (((bC gB (V 71 gf).toInt.toNat (V 75 gf).toInt.toNat).headD 0 : Nat) : Int) (V 72 gf).toInt (gm 0 4)) := ⟨⟨pk1, pk2⟩, by (first | exact om_9d79a7b54536 q69 hz22 wr39 | omega), ⟨by (first | exact om_5b915cff7c37 rgz16 wr40 fd9 | omega), by (first | exact om_dce5fd79e355 fd9 | omega), by (first | exact om_7ee8693b6dbe fd9 hd9 | omega)⟩, ⟨by (first | exact om_a305bbc40630 q72 wr41 | omega), by (first | exact om_2784858f1dd2 q72 r20 wr41 wr50 | omega), by omega⟩, by (first | exact om_4dd8f2c1f0b5 wr42 rh8 | omega), by rw [p83]; decide⟩
      have pq56 : (V32 5 7).toInt = ((V 5 7)).toInt := congrArg Int32.toInt (ajV32 5 7 rfl)
      have r57 : 0 ≤ ((V 5 7)).toInt ∧ ((V 5 7)).toInt ≤ 2048 := hMV 5 7
      have rz8 : RW V32 gB (mU gm 0 6 0, ga, Froot0 ((V 69 gf).toInt + 1) (((bC gB (V 71 gf).toInt.toNat (V 75 gf).toInt.toNat).headD 0 : Nat) : Int) (V 72 gf).toInt (gm 0 4) :: Fget lv o c sc at9 nd tg v g p :: gr) := RW.sgn rwq (ESw.ag (show agr [(5, 6), (5, 9)] [67, 68, 69, 70, 71, 72, 73, 74, 75, 76, 77, 78, 79, 80, 81, 82, 83, 84, 85] V V32 from (agr.tr agr.rf ajV32 (by decide) (by decide))) (by decide)) pd2 (fun h9 => absurd h9 (by decide)) (fun h9 => absurd h9 (by decide)) (show (V32 5 6).toInt = ((gr.length + 1 + 1 : Nat) : Int) from by (first | exact om_f6005dfeba5e kdp rd rd2 pi9 pd1 | omega)) (show (V32 5 7).toInt = ((tw9 : Nat) : Int) from by rw [(ajV32 5 7 rfl)]; exact rt9) (RWl.push rl55 ft9 rfl (np9 rfl))
      have rx38 : RW V32 gB (lateM gB gm ga gr (V 69 gf).toInt (V 71 gf).toInt (V 72 gf).toInt (V 75 gf).toInt gfr) := by unfold lateM; rw [if_neg (by (first | exact om_e9d81d06a4a6 q69 f14 r21 hz22 wr39 wr47 | omega)), hfe]; exact rz8
      refine W.know (fun kr1 kr2 => ?_)
      refine W.widen (k := zcc Z) (n := zss Z) (Nat.sub_le _ _) (Nat.sub_le _ _) ?_
      exact W.vret hx hb hr (fun t ht hW => ⟨⟨(V32, L, Z34), rfl, ⟨hMV32, agV32, rfl, zoZ34, t36, rx38⟩, ⟨by rw [ht]; exact hP, va_K.moved hW.alike hK, hD⟩, by rw [ht]; exact kr1, by rw [ht]; exact kr2⟩, hS.F ht⟩) hS.2.2 dX5_getLate_48
    · skip
      have f58 : 10 ≤ ((V 69 gf)).toInt := b_nlt rfl (by decide) c13
      refine lv_aload_n hx hb dX5_getLate_9 rfl (lv_at hl 0 rfl) ?_
      refine lv_iconst (v := 0) hx hb dX5_getLate_10 (by decide) ?_
      refine lv_bipush (v := 13) hx hb dX5_getLate_11 (by decide) ?_
      have r59 : Int32.toInt 0 = 0 := by decide
      have r60 : Int32.toInt 13 = 13 := by decide
      refine gA_void (gA_runV (As := [.int 0, .int 13]) (rest := []) (ci := 5) (q0 := 5) hx hb hml hown hg hP hD hK hS hA hnw hgk (x_failWith9 l D ks H.size ad kk V L Z 0 13 hMV ) w1261 w1263 w46 w171 w1264 rfl xgMachine hdV_yX5_failWith ⟨Nat.le_of_ble_eq_true rfl, Nat.le_of_ble_eq_true rfl⟩ rfl hl.1 rfl (Nat.le_of_ble_eq_true rfl) dX5_getLate_13 ⟨z0, z0⟩) hP hD hK hS hA (fun u62 H locs w63 hP hD hK hS => ?_)
      obtain ⟨V66, L67⟩ := u62
      obtain ⟨hMV66, ajV66, axL67, t64, t65⟩ := w63
      have axL67 : L = L67 := Eq.symm axL67
      subst axL67
      have hP : va_P D vwCl (xw ad kk V66 L Z) H := hP
      have hD : va_D A (xw ad kk V66 L Z) := hD
      have hMV66 : rgd bX V66 := hMV66
      have ajV66 : agr [(5, 9), (5, 11), (5, 12)] [] V V66 := ajV66
      have agV66 : agr [(5, 6), (5, 9), (5, 11), (5, 12)] [67, 68, 69, 70, 71, 72, 73, 74, 75, 76, 77, 78, 79, 80, 81, 82, 83, 84, 85] V V66 := agV.tr ajV66 (by decide) (by decide)
      have t64 : (V66 5 9).toInt = 2 := t64
      have t65 : ((True) ∧ V66 = (up2 (up2 (up2 V 5 9 2) 5 11 0) 5 12 13)) := t65
      have r68 : 0 ≤ ((V66 5 9)).toInt ∧ ((V66 5 9)).toInt ≤ 3 := hMV66 5 9
      have hw69 := t65.2
      obtain ⟨V70, hV70⟩ : ∃ z, z = up2 V 5 9 2 := ⟨_, rfl⟩
      obtain ⟨V71, hV71⟩ : ∃ z, z = up2 V70 5 11 0 := ⟨_, rfl⟩
      have hV66 : V66 = up2 V71 5 12 13 := by rw [hw69, hV71, hV70]
      have me72 : ME V V66 gf := (ME.up (ME.up (ME.up ME.rf hV70 (Or.inr (by (first | exact om_620f5006bfaa  | omega)))) hV71 (Or.inr (by (first | exact om_ded18bf8e7e5  | omega)))) hV66 (Or.inr (by (first | exact om_82aabbaa6769  | omega))))
      have pq73 : (V66 67 gf).toInt = ((V 67 gf)).toInt := congrArg Int32.toInt ((up2_o hV66 (by decide)).trans ((up2_o hV71 (by decide)).trans (up2_o hV70 (by decide))))
      have pq74 : (V66 68 gf).toInt = ((V 68 gf)).toInt := congrArg Int32.toInt ((up2_o hV66 (by decide)).trans ((up2_o hV71 (by decide)).trans (up2_o hV70 (by decide))))
      have pq75 : (V66 70 gf).toInt = ((V 70 gf)).toInt := congrArg Int32.toInt ((up2_o hV66 (by decide)).trans ((up2_o hV71 (by decide)).trans (up2_o hV70 (by decide))))
      have pq76 : (V66 71 gf).toInt = ((V 71 gf)).toInt := congrArg Int32.toInt ((up2_o hV66 (by decide)).trans ((up2_o hV71 (by decide)).trans (up2_o hV70 (by decide))))
      have pq77 : (V66 75 gf).toInt = ((V 75 gf)).toInt := congrArg Int32.toInt ((up2_o hV66 (by decide)).trans ((up2_o hV71 (by decide)).trans (up2_o hV70 (by decide))))
      have pq78 : (V66 76 gf).toInt = ((V 76 gf)).toInt := congrArg Int32.toInt ((up2_o hV66 (by decide)).trans ((up2_o hV71 (by decide)).trans (up2_o hV70 (by decide))))
      have pq79 : (V66 80 gf).toInt = ((V 80 gf)).toInt := congrArg Int32.toInt ((up2_o hV66 (by decide)).trans ((up2_o hV71 (by decide)).trans (up2_o hV70 (by decide))))
      have pq80 : (V66 84 gf).toInt = ((V 84 gf)).toInt := congrArg Int32.toInt ((up2_o hV66 (by decide)).trans ((up2_o hV71 (by decide)).trans (up2_o hV70 (by decide))))
      have pq81 : (V66 5 6).toInt = ((V 5 6)).toInt := congrArg Int32.toInt ((up2_k hV66 (by decide)).trans ((up2_k hV71 (by decide)).trans (up2_k hV70 (by decide))))
      have pq82 : (V66 5 8).toInt = ((V 5 8)).toInt := congrArg Int32.toInt ((up2_k hV66 (by decide)).trans ((up2_k hV71 (by decide)).trans (up2_k hV70 (by decide))))
      have pq83 : (V66 5 9).toInt = 2 := (congrArg Int32.toInt ((up2_k hV66 (by decide)).trans ((up2_k hV71 (by decide)).trans (up2_s hV70)))).trans (by decide)
      have pq84 : (V66 3 13).toInt = ((V 3 13)).toInt := congrArg Int32.toInt ((up2_o hV66 (by decide)).trans ((up2_o hV71 (by decide)).trans (up2_o hV70 (by decide))))
      have pq85 : (V66 43 (5 * b + 2)).toInt = ((V 43 (5 * b + 2))).toInt := congrArg Int32.toInt ((up2_o hV66 (by decide)).trans ((up2_o hV71 (by decide)).trans (up2_o hV70 (by decide))))
      have pq86 : (V66 42 b).toInt = ((V 42 b)).toInt := congrArg Int32.toInt ((up2_o hV66 (by decide)).trans ((up2_o hV71 (by decide)).trans (up2_o hV70 (by decide))))
      have pq87 : (V66 41 b).toInt = ((V 41 b)).toInt := congrArg Int32.toInt ((up2_o hV66 (by decide)).trans ((up2_o hV71 (by decide)).trans (up2_o hV70 (by decide))))
      have ep90 : V66 84 gf = (V 84 gf) := ((up2_o hV66 (by decide)).trans ((up2_o hV71 (by decide)).trans (up2_o hV70 (by decide))))
      have af89 : (V66 42 b).toInt ≤ (V66 84 gf).toInt ∨ (bdp V66 b (V66 84 gf).toInt.toNat).1 = true := by rw [ep90, me72.1.bd, me72.1 42 b (by decide) (by decide)]; exact ft
      have mo88 : MO V66 Z b gf True (QN V66 b) (QN V66 b) := MO.ch mo me72 ((up2_o hV66 (by decide)).trans ((up2_o hV71 (by decide)).trans (up2_o hV70 (by decide)))) ((up2_o hV66 (by decide)).trans ((up2_o hV71 (by decide)).trans (up2_o hV70 (by decide)))) (fun _ => Or.inl (by (first | exact om_85c82c20915f gk | omega))) (fun x h => FK.k4 (by (first | exact om_ac6651f4ff0c gk pq73 | omega)) (by (first | exact om_fe4c0070b215 r2 fc q71 pq76 pq85 | omega)) (by (first | exact om_2528d582d5a0 fo ra2 q70 pq75 pq84 | omega)) af89 (by (first | exact om_f8a4187a990e r3 fq7 q75 pq77 | omega)) (fun _ z => absurd z.1 (by (first | exact om_43d8e2139c68 t64 | omega))))
      have rp91 : MJ V66 Z b := MO.mj mo88 (by (first | exact om_c09d41618ed8 hgf | omega)) (by (first | exact om_82fa09255765 gd pq81 | omega)) id id Or.inr
      have wr93 : (V66 3 13).toInt = (V 3 13).toInt := congrArg Int32.toInt ((up2_o hV66 (by decide)).trans ((up2_o hV71 (by decide)).trans (up2_o hV70 (by decide))))
      have wr94 : (V66 3 12).toInt = (V 3 12).toInt := congrArg Int32.toInt ((up2_o hV66 (by decide)).trans ((up2_o hV71 (by decide)).trans (up2_o hV70 (by decide))))
      have wr95 : (V66 67 gf).toInt = ((V 67 gf)).toInt := (congrArg Int32.toInt ((up2_o hV66 (by decide)).trans ((up2_o hV71 (by decide)).trans (up2_o hV70 (by decide)))))
      have wr96 : (V66 68 gf).toInt = ((V 68 gf)).toInt := (congrArg Int32.toInt ((up2_o hV66 (by decide)).trans ((up2_o hV71 (by decide)).trans (up2_o hV70 (by decide)))))
      have wr97 : (V66 69 gf).toInt = ((V 69 gf)).toInt := (congrArg Int32.toInt ((up2_o hV66 (by decide)).trans ((up2_o hV71 (by decide)).trans (up2_o hV70 (by decide)))))
      have wr98 : (V66 70 gf).toInt = ((V 70 gf)).toInt := (congrArg Int32.toInt ((up2_o hV66 (by decide)).trans ((up2_o hV71 (by decide)).trans (up2_o hV70 (by decide)))))
      have wr99 : (V66 71 gf).toInt = ((V 71 gf)).toInt := (congrArg Int32.toInt ((up2_o hV66 (by decide)).trans ((up2_o hV71 (by decide)).trans (up2_o hV70 (by decide)))))
      have wr100 : (V66 72 gf).toInt = ((V 72 gf)).toInt := (congrArg Int32.toInt ((up2_o hV66 (by decide)).trans ((up2_o hV71 (by decide)).trans (up2_o hV70 (by decide)))))
      have wr101 : (V66 75 gf).toInt = ((V 75 gf)).toInt := (congrArg Int32.toInt ((up2_o hV66 (by decide)).trans ((up2_o hV71 (by decide)).trans (up2_o hV70 (by decide)))))
      have wr102 : (V66 76 gf).toInt = ((V 76 gf)).toInt := (congrArg Int32.toInt ((up2_o hV66 (by decide)).trans ((up2_o hV71 (by decide)).trans (up2_o hV70 (by decide)))))
      have wr103 : (V66 77 gf).toInt = ((V 77 gf)).toInt := (congrArg Int32.toInt ((up2_o hV66 (by decide)).trans ((up2_o hV71 (by decide)).trans (up2_o hV70 (by decide)))))
      have wr104 : (V66 84 gf).toInt = ((V 84 gf)).toInt := (congrArg Int32.toInt ((up2_o hV66 (by decide)).trans ((up2_o hV71 (by decide)).trans (up2_o hV70 (by decide)))))
      have me105 : ME V V66 gf := (ME.up (ME.up (ME.up ME.rf hV70 (Or.inr (by (first | exact om_620f5006bfaa  | omega)))) hV71 (Or.inr (by (first | exact om_ded18bf8e7e5  | omega)))) hV66 (Or.inr (by (first | exact om_82aabbaa6769  | omega))))
      have rl106 : RWl V66 gB gr t0 := RWl.mv hlr (fun i9 hi9 c9 h1 h2 => me105.2.1 c9 i9 h1 h2 (by (first | exact om_d533758b7085 gd kdp rd rd2 pq81 hi9 | omega))) (fun j9 hj9 => ((up2_o hV66 (by decide)).trans ((up2_o hV71 (by decide)).trans (up2_o hV70 (by decide))))) (by rw [((up2_o hV66 (by decide)).trans ((up2_o hV71 (by decide)).trans (up2_o hV70 (by decide))))]; exact Int.le_refl _) ((up2_o hV66 (by decide)).trans ((up2_o hV71 (by decide)).trans (up2_o hV70 (by decide))))
      have fo8 : FRc V66 gB gr.length (Fget lv o c sc at9 nd tg v g p) := by rw [gl9]; exact ⟨⟨by (first | exact om_ac6651f4ff0c gk pq73 | omega), by (first | exact om_e2de96038fd4 gph pq74 | omega)⟩, ⟨by (first | exact om_81e7890e229d lv9 q69 f58 wr97 | omega), ⟨by (first | exact om_cd7d0a6a31bc q70 pq75 | omega), by (first | exact om_72c355b130f5 fo q70 pq75 | omega), by (first | exact om_f57ef38931b8 fo ra2 q70 pq75 pq84 | omega)⟩, ⟨by (first | exact om_cd7d0a6a31bc q71 pq76 | omega), by (first | exact om_50e3d3ad91f5 r2 fc q71 pq76 | omega), by (first | exact om_e52dd4456e8b q71 c1 pq76 | omega)⟩, ⟨by (first | exact om_cd7d0a6a31bc q72 wr100 | omega), by omega, by omega⟩⟩, ⟨a0, by omega⟩, by omega, by omega, (((up2_o hV66 (by decide)).trans ((up2_o hV71 (by decide)).trans (up2_o hV70 (by decide)))).trans q74), (((up2_o hV66 (by decide)).trans ((up2_o hV71 (by decide)).trans (up2_o hV70 (by decide)))).trans q78)⟩
      have rl107 : RWl V66 gB (Fget lv o c sc at9 nd tg v g p :: gr) tw9 := ⟨t0, tl7, fo8, fun _ _ => (by rw [gl9, ((up2_o hV66 (by decide)).trans ((up2_o hV71 (by decide)).trans (up2_o hV70 (by decide))))]; exact hb8), plC.mv hp8 (fun j9 _ => ((up2_o hV66 (by decide)).trans ((up2_o hV71 (by decide)).trans (up2_o hV70 (by decide))))), rl106⟩
      have pq108 : (V66 5 11).toInt = 0 := (congrArg Int32.toInt ((up2_k hV66 (by decide)).trans (up2_s hV71))).trans (by decide)
      have pq109 : (V66 5 12).toInt = 13 := (congrArg Int32.toInt (up2_s hV66)).trans (by decide)
      have rz8 : RW V66 gB (mU (mU (mU gm 0 6 2) 0 8 0) 0 9 13, ga, Fget lv o c sc at9 nd tg v g p :: gr) := RW.fl rwq (ESw.ag (show agr [(5, 9), (5, 11), (5, 12)] [] V V66 from (agr.up (agr.up (agr.up agr.rf hV70 rfl) hV71 rfl) hV66 rfl)) (by decide)) (by (first | exact om_6aa5e6f8c558 t64 | omega)) (by (first | exact om_b66ba74381d5 pq108 | omega)) (by (first | exact om_20b14d939230 pq109 | omega)) (show (V66 5 6).toInt = ((gr.length + 1 : Nat) : Int) from by (first | exact om_96ca9fe4933d rd2 pq81 | omega)) (show (V66 5 7).toInt = ((tw9 : Nat) : Int) from by rw [((up2_k hV66 (by decide)).trans ((up2_k hV71 (by decide)).trans (up2_k hV70 (by decide))))]; exact rt9) rl107
      have rx92 : RW V66 gB (lateM gB gm ga gr (V 69 gf).toInt (V 71 gf).toInt (V 72 gf).toInt (V 75 gf).toInt gfr) := by unfold lateM; rw [if_pos (by omega), hfe]; exact rz8
      refine W.know (fun kr1 kr2 => ?_)
      refine W.widen (k := zcc Z) (n := zss Z) (Nat.sub_le _ _) (Nat.sub_le _ _) ?_
      exact W.vret hx hb hr (fun t ht hW => ⟨⟨(V66, L, Z), rfl, ⟨hMV66, agV66, rfl, zoZ, rp91, rx92⟩, ⟨by rw [ht]; exact hP, va_K.moved hW.alike hK, hD⟩, by rw [ht]; exact kr1, by rw [ht]; exact kr2⟩, hS.F ht⟩) hS.2.2 dX5_getLate_16
  · skip
    have hf : FRc V gB gf (Fsum lv o c sc at9 nd tg it v g u p) := by rw [← hfe]; exact hf0
    have tl8 : tw9 = t0 + (Fsum lv o c sc at9 nd tg it v g u p : Fr).2.2.2.length := by rw [← hfe]; exact tl9
    obtain ⟨⟨k67, k68⟩, hoc, ⟨a0, q84⟩, q75, q77, q76, q74, q78, q79⟩ := hf
    obtain ⟨q69, ⟨q70, o0, o1⟩, ⟨q71, c0, c1⟩, ⟨q72, s0, s1⟩⟩ := hoc
    have cn9 : c.toNat < nC gB := by omega
    have kc9 : Int32.toNatClampNeg (V 71 gf) = c.toNat := by have h9 := i_clamp (x := V 71 gf) rfl (by omega); omega
    have ko9 : Int32.toNatClampNeg (V 70 gf) = o.toNat := by have h9 := i_clamp (x := V 70 gf) rfl (by omega); omega
    have tl7 : tw9 = t0 + p.length := tl8
    have hb8 : (V 85 gf).toInt = (t0 : Int) := hbs9 (by rw [hfe]; exact (by decide : (12 : Nat) ≤ 16)) (by rw [hfe]; exact (by decide : (16 : Nat) ≤ 16))
    have hp8 : plC V tw9 p := by have h9 := hpl9; rw [hfe] at h9; exact h9
    exfalso; omega
abbrev r_x_callNeed9 (Z : XZ) : Room := { frames := 5, cells := zcc Z, slots := zss Z, locals := 112 }
abbrev q_x_callNeed9 (D : va_G) (ks : KS) (ad : Nat → Nat) (kk : Nat → ClassId) (V : Vf) (L : Lf) (Z : XZ) (b : Nat) (gf : Nat) (gB : Bk) (gm : Mm) (ga : Int32) (gfr : Fr) (gr : List Fr) (A : Nat → Prop) : Array Value → State → Outcome → State → Prop := qZv D (fun (u : Vf × Lf × XZ) => rgd bX u.1 ∧ agr [(5, 6), (5, 9), (5, 10), (5, 11), (5, 12)] [67, 68, 69, 70, 71, 72, 73, 74, 75, 76, 77, 78, 79, 80, 81, 82, 83, 84, 85] V u.1 ∧ u.2.1 = L ∧ ZL Z u.2.2 ∧ (MJ u.1 u.2.2 b) ∧ (RW u.1 gB (stM gB (gm, ga, gfr :: gr)))) (fun u => xw ad kk u.1 u.2.1 u.2.2) (fun u => xty kk u.2.2) (fun u => zcc Z - zcc u.2.2) (fun u => zss Z - zss u.2.2) A
set_option maxHeartbeats 4000000 in
set_option maxRecDepth 100000 in
theorem x_callNeed9 (l : Launch) (D : va_G) (ks : KS) (sz : Nat) (ad : Nat → Nat) (kk : Nat → ClassId) (V : Vf) (L : Lf) (Z : XZ) (b : Nat) (gf : Nat) (gB : Bk) (gm : Mm) (ga : Int32) (gfr : Fr) (gr : List Fr) (hMV : rgd bX V) (hb2 : b < 2) (hgf : gf < Z.nf) (mo : MO V Z b gf True (QN V b) (QN V b)) (gd : (gf : Int) + 1 = (V 5 6).toInt) (gk : (V 67 gf).toInt = 4) (gph : (V 68 gf).toInt = 6) (rwq : RW V gB (gm, ga, gfr :: gr)) (bc : BKc V b gB) (sf : SF gB (gm, ga, gfr :: gr)) (go9 : GOs gB (gm, ga, gfr :: gr))  : Met l yX5_callNeed (Cond.code yX5_callNeed cX5_callNeed 4 none :: GW) (r_x_callNeed9 Z) (va_Pc [.ref (ad 5), .ref (Z.fa gf)] (gp D ks (xw ad kk V L Z) (xty kk Z) sz)) (q_x_callNeed9 D ks ad kk V L Z  b gf gB gm ga gfr gr (va_A (xw ad kk V L Z) sz)) (zcc Z) (zss Z) (va_A (xw ad kk V L Z) sz) := by
  refine g_met (q_x_callNeed9 D ks ad kk V L Z  b gf gB gm ga gfr gr) (by decide) (Nat.le_of_ble_eq_true rfl) ?_
  intro p e s m below meth c A ls H locs hx hb hr hml hown hg hlocks hin hnw hgk hP hK hD hS hA hl
  have hown : s.vm.findClass RX5 = some m.cls := hown
  have hl : lv_has ls 4 [(0, .ref (ad 5)), (1, .ref (Z.fa gf))] := hl
  have hP : va_P D vwCl (xw ad kk V L Z) H := hP
  have hD : va_D A (xw ad kk V L Z) := hD
  have hK : va_K D vwCl (xty kk Z) s := hK
  have agV : agr [(5, 6), (5, 9), (5, 10), (5, 11), (5, 12)] [67, 68, 69, 70, 71, 72, 73, 74, 75, 76, 77, 78, 79, 80, 81, 82, 83, 84, 85] V V := agr.rf
  have zoZ : ZL Z Z := ZL.rf
  refine W.know (fun ka kb => ?_)
  refine W.tight (k := zcc Z - zcc Z) (n := zss Z - zss Z) (by omega) (by omega) ?_
  have r1 : 0 ≤ ((V 5 6)).toInt ∧ ((V 5 6)).toInt ≤ 400 := hMV 5 6
  have kdp := i_clamp (x := V 5 6) rfl (by (first | exact om_c66f1b494bd9 gd | omega))
  have hdn : (gf : Int) + 1 ≤ (Z.nf : Int) := by (first | exact om_29efded833ec hgf | omega)
  have mup := MO.up mo
  have msz := mup.1
  have mbk := mup.2.2.2.1
  obtain ⟨xk, fk⟩ := MO.fk mo
  have r2 : (-1) ≤ ((V 71 gf)).toInt ∧ ((V 71 gf)).toInt ≤ 23 := hMV 71 gf
  have r3 : 0 ≤ ((V 75 gf)).toInt ∧ ((V 75 gf)).toInt ≤ 12 := hMV 75 gf
  have r4 : 0 ≤ ((V 80 gf)).toInt ∧ ((V 80 gf)).toInt ≤ 300 := hMV 80 gf
  have r5 : 0 ≤ ((V 84 gf)).toInt ∧ ((V 84 gf)).toInt ≤ 2147483647 := hMV 84 gf
  have r6 : 0 ≤ ((V 5 8)).toInt ∧ ((V 5 8)).toInt ≤ 300 := hMV 5 8
  have r7 : 0 ≤ ((V 5 9)).toInt ∧ ((V 5 9)).toInt ≤ 3 := hMV 5 9
  have r8 : 0 ≤ ((V 3 13)).toInt ∧ ((V 3 13)).toInt ≤ 300 := hMV 3 13
  have r9 : 0 ≤ ((V 43 (5 * b + 2))).toInt ∧ ((V 43 (5 * b + 2))).toInt ≤ ((xcap (5 * b + 2) : Nat) : Int) := hMV 43 (5 * b + 2)
  have r10 : xcap (5 * b + 2) = 24 := xcap_2
  have r11 : 0 ≤ ((V 41 b)).toInt ∧ ((V 41 b)).toInt ≤ 12 := hMV 41 b
  have r12 : 0 ≤ ((V 42 b)).toInt ∧ ((V 42 b)).toInt ≤ 8200 := hMV 42 b
  have fc := fk.1 (by omega)
  have fo := fk.2.1 (by omega) (by omega)
  have ft := fk.2.2.1 (by omega)
  have fq := fk.2.2.2.1 (by omega)
  have fq7 := fq (by omega)
  have m1 : Int32.toInt (-1) = -1 := by decide
  have rw0 := rwq
  obtain ⟨⟨ow, rn⟩, rh, rd, tw9, rt9, rl⟩ := rw0
  have rn : RWn V ow gB gm := rn
  have rh : RWh V gm ga := rh
  have rd2 : (V 5 6).toInt = ((gr.length + 1 : Nat) : Int) := rd
  have gl9 : gr.length = gf := by (first | exact om_ec03263ced6a gd rd2 | omega)
  have sl9 : gr.length ≤ 394 := by have h9 : gr.length + 1 ≤ 395 := sf.1; (first | exact om_ecdae44fb13c h9 | omega)
  have rh1 : (V 5 9).toInt = gm 0 6 := rh.1
  have ra2 : (V 3 13).toInt = gm 0 2 := rn.1.1.2.2.1
  have rl0 := rl
  obtain ⟨t0, tl9, hf0, hbs9, hpl9, hlr⟩ := rl0
  rw [gl9] at hf0 hbs9
  rcases FRc.k4 hf0 gk with ⟨lv, o, c, sc, me, ps, at9, v, p, hfe⟩ | ⟨lv, o, c, sc, me, ps, at9, v, p, hfe⟩ | ⟨lv, o, c, sc, at9, nd, tg, v, g, p, hfe⟩ | ⟨lv, o, c, sc, at9, nd, tg, v, g, p, hfe⟩ | ⟨lv, o, c, sc, at9, nd, tg, it, v, g, u, p, hfe⟩
  · skip
    have hf : FRc V gB gf (Fwork lv o c sc me ps at9 v p) := by rw [← hfe]; exact hf0
    have tl8 : tw9 = t0 + (Fwork lv o c sc me ps at9 v p : Fr).2.2.2.length := by rw [← hfe]; exact tl9
    obtain ⟨⟨k67, k68⟩, hoc, hps9, ⟨a0, q84⟩, q74⟩ := hf
    obtain ⟨q69, ⟨q70, o0, o1⟩, ⟨q71, c0, c1⟩, ⟨q72, s0, s1⟩⟩ := hoc
    have cn9 : c.toNat < nC gB := by omega
    have kc9 : Int32.toNatClampNeg (V 71 gf) = c.toNat := by have h9 := i_clamp (x := V 71 gf) rfl (by omega); omega
    have ko9 : Int32.toNatClampNeg (V 70 gf) = o.toNat := by have h9 := i_clamp (x := V 70 gf) rfl (by omega); omega
    have tl7 : tw9 = t0 + p.length := tl8
    have hb8 : (V 85 gf).toInt = (t0 : Int) := hbs9 (by rw [hfe]; exact (by decide : (12 : Nat) ≤ 12)) (by rw [hfe]; exact (by decide : (12 : Nat) ≤ 16))
    have hp8 : plC V tw9 p := by have h9 := hpl9; rw [hfe] at h9; exact h9
    exfalso; omega
  · skip
    have hf : FRc V gB gf (Fwait lv o c sc me ps at9 v p) := by rw [← hfe]; exact hf0
    have tl8 : tw9 = t0 + (Fwait lv o c sc me ps at9 v p : Fr).2.2.2.length := by rw [← hfe]; exact tl9
    obtain ⟨⟨k67, k68⟩, hoc, hps9, ⟨a0, q84⟩, q74⟩ := hf
    obtain ⟨q69, ⟨q70, o0, o1⟩, ⟨q71, c0, c1⟩, ⟨q72, s0, s1⟩⟩ := hoc
    have cn9 : c.toNat < nC gB := by omega
    have kc9 : Int32.toNatClampNeg (V 71 gf) = c.toNat := by have h9 := i_clamp (x := V 71 gf) rfl (by omega); omega
    have ko9 : Int32.toNatClampNeg (V 70 gf) = o.toNat := by have h9 := i_clamp (x := V 70 gf) rfl (by omega); omega
    have tl7 : tw9 = t0 + p.length := tl8
    have hb8 : (V 85 gf).toInt = (t0 : Int) := hbs9 (by rw [hfe]; exact (by decide : (12 : Nat) ≤ 13)) (by rw [hfe]; exact (by decide : (13 : Nat) ≤ 16))
    have hp8 : plC V tw9 p := by have h9 := hpl9; rw [hfe] at h9; exact h9
    exfalso; omega
  · skip
    have hf : FRc V gB gf (Fask lv o c sc at9 nd tg v g p) := by rw [← hfe]; exact hf0
    have tl8 : tw9 = t0 + (Fask lv o c sc at9 nd tg v g p : Fr).2.2.2.length := by rw [← hfe]; exact tl9
    obtain ⟨⟨k67, k68⟩, hoc, ⟨a0, q84⟩, q75, q77, q74, q78⟩ := hf
    obtain ⟨q69, ⟨q70, o0, o1⟩, ⟨q71, c0, c1⟩, ⟨q72, s0, s1⟩⟩ := hoc
    have cn9 : c.toNat < nC gB := by omega
    have kc9 : Int32.toNatClampNeg (V 71 gf) = c.toNat := by have h9 := i_clamp (x := V 71 gf) rfl (by omega); omega
    have ko9 : Int32.toNatClampNeg (V 70 gf) = o.toNat := by have h9 := i_clamp (x := V 70 gf) rfl (by omega); omega
    have tl7 : tw9 = t0 + p.length := tl8
    have hb8 : (V 85 gf).toInt = (t0 : Int) := hbs9 (by rw [hfe]; exact (by decide : (12 : Nat) ≤ 14)) (by rw [hfe]; exact (by decide : (14 : Nat) ≤ 16))
    have hp8 : plC V tw9 p := by have h9 := hpl9; rw [hfe] at h9; exact h9
    have r77 : 0 ≤ (V 77 gf).toInt ∧ (V 77 gf).toInt ≤ 19 := hMV 77 gf
    have sft : SFt gB gm ga (Fask lv o c sc at9 nd tg v g p) := by rw [← hfe]; exact sf.2.2.2.2 gfr gr rfl
    obtain ⟨sl7, n07, t07, bc7, j0, j24, jnn, nb7⟩ := sft
    have kn9 : Int32.toNatClampNeg (V 75 gf) = nd.toNat := by have h9 := i_clamp (x := V 75 gf) rfl (by (first | exact om_eafa9039069c r3.1 | omega)); omega
    refine lv_aload_n hx hb dX5_callNeed_0 rfl (lv_at hl 0 rfl) ?_
    refine va_get (D := D) (ci := 5) (v := .ref (ad (38 + Int32.toNatClampNeg (V 5 5)))) (fs := (xfMachine ad V L Z)) (C := RX5) (T := TX5) (N := 15) hx hb hg inX5 hown hK hP 5 xgMachine rfl 5 (by decide) (hg _ w672) (fun _ h9 => h9) rfl dX5_callNeed_1 ?_
    have r13 : 0 ≤ ((V 5 5)).toInt ∧ ((V 5 5)).toInt ≤ 1 := hMV 5 5
    refine g_topv (v := .ref (ad (38 + b))) (rfP (by omega)) ?_
    refine va_getN (D := D) (ci := 0) (v := .ref (ad (64 + b))) (fs := (xfBook ad V b)) (C := RX0) (T := TX0) (N := 13) hx hb hg inX0 hown hK hP (38 + b) (xgBook hb2) rfl 7 (by decide) (hnw.use 618 n618 rfl) (fun _ h9 => h9) rfl dX5_callNeed_4 ?_
    refine lv_aload_n hx hb dX5_callNeed_7 rfl (lv_at hl 1 rfl) ?_
    refine va_getN (D := D) (ci := 4) (v := .int (V 71 gf)) (fs := (xfFrame V gf)) (C := RX4) (T := TX4) (N := 19) hx hb hg inX4 hown hK hP (336 + gf) (xgFrame hgf) rfl 4 (by decide) (hnw.use 1193 n1193 rfl) (fun _ h9 => h9) rfl dX5_callNeed_8 ?_
    have il14 : b < 2 := by (first | exact om_f940a4667dd6 hb2 | omega)
    refine va_aldq (D := D) (i := (V 71 gf)) hx hb hK hP (64 + b) (57 + b) (xgcomps il14) (xtcomps il14) (i_in (a := ((V 71 gf)).toInt) rfl (by omega)) dX5_callNeed_11 ?_
    have kc15 := i_clamp (x := (V 71 gf)) rfl (by omega)
    refine g_topv (v := .ref (ad (72 + (24 * b + (Int32.toNatClampNeg (V 71 gf)))))) (congrArg va_rf (if_pos (by omega))) ?_
    have il16 : (24 * b + (Int32.toNatClampNeg (V 71 gf))) < 48 := by (first | exact om_31a61188bc78 hb2 r2.2 kc15 | omega)
    refine va_getN (D := D) (ci := 3) (v := .ref (ad (216 + (24 * b + (Int32.toNatClampNeg (V 71 gf)))))) (fs := (xfComp ad V (24 * b + (Int32.toNatClampNeg (V 71 gf))))) (C := RX3) (T := TX3) (N := 13) hx hb hg inX3 hown hK hP (72 + (24 * b + (Int32.toNatClampNeg (V 71 gf)))) (xgComp il16) rfl 2 (by decide) (hnw.use 506 n506 rfl) (fun _ h9 => h9) rfl dX5_callNeed_12 ?_
    refine lv_aload_n hx hb dX5_callNeed_15 rfl (lv_at hl 1 rfl) ?_
    refine va_getN (D := D) (ci := 4) (v := .int (V 75 gf)) (fs := (xfFrame V gf)) (C := RX4) (T := TX4) (N := 19) hx hb hg inX4 hown hK hP (336 + gf) (xgFrame hgf) rfl 8 (by decide) (hnw.use 1197 n1197 rfl) (fun _ h9 => h9) rfl dX5_callNeed_16 ?_
    have il17 : (24 * b + (Int32.toNatClampNeg (V 71 gf))) < 48 := by (first | exact om_31a61188bc78 hb2 r2.2 kc15 | omega)
    refine va_iald (D := D) (i := (V 75 gf)) hx hb hK hP (216 + (24 * b + (Int32.toNatClampNeg (V 71 gf)))) (209 + (24 * b + (Int32.toNatClampNeg (V 71 gf)))) (xgneedKinds il17) (xtneedKinds il17) (i_in (a := ((V 75 gf)).toInt) rfl (by omega)) dX5_callNeed_19 ?_
    have kc18 := i_clamp (x := (V 75 gf)) rfl (by (first | exact om_eafa9039069c r3.1 | omega))
    refine g_top (v := V 60 (8 * (24 * b + (Int32.toNatClampNeg (V 71 gf))) + (Int32.toNatClampNeg (V 75 gf)))) (if_pos (by omega)) ?_
    refine lv_istore_n (lv' := [(2, .int (V 60 (8 * (24 * b + (Int32.toNatClampNeg (V 71 gf))) + (Int32.toNatClampNeg (V 75 gf))))), (0, .ref (ad 5)), (1, .ref (Z.fa gf))]) hx hb dX5_callNeed_20 rfl hl (by decide) rfl (fun ls hl => ?_)
    refine lv_aload_n hx hb dX5_callNeed_21 rfl (lv_at hl 1 rfl) ?_
    refine va_get (D := D) (ci := 5) (v := .ref (ad 3)) (fs := (xfMachine ad V L Z)) (C := RX5) (T := TX5) (N := 15) hx hb hg inX5 hown hK hP 5 xgMachine rfl 0 (by decide) (hg _ w667) (fun _ h9 => h9) rfl dX5_callNeed_22 ?_
    refine lv_aload_n hx hb dX5_callNeed_25 rfl (lv_at hl 2 rfl) ?_
    refine va_getN (D := D) (ci := 4) (v := .int (V 70 gf)) (fs := (xfFrame V gf)) (C := RX4) (T := TX4) (N := 19) hx hb hg inX4 hown hK hP (336 + gf) (xgFrame hgf) rfl 3 (by decide) (hnw.use 1192 n1192 rfl) (fun _ h9 => h9) rfl dX5_callNeed_26 ?_
    refine lv_aload_n hx hb dX5_callNeed_29 rfl (lv_at hl 2 rfl) ?_
    refine va_getN (D := D) (ci := 4) (v := .int (V 75 gf)) (fs := (xfFrame V gf)) (C := RX4) (T := TX4) (N := 19) hx hb hg inX4 hown hK hP (336 + gf) (xgFrame hgf) rfl 8 (by decide) (hnw.use 1197 n1197 rfl) (fun _ h9 => h9) rfl dX5_callNeed_30 ?_
    refine lv_iconst (v := 0) hx hb dX5_callNeed_33 (by decide) ?_
    have r19 : Int32.toInt 0 = 0 := by decide
    refine gA_int (gA_runV (As := [.int (V 70 gf), .int (V 75 gf), .int 0]) (rest := []) (ci := 8) (q0 := 3) hx hb hml hown hg hP hD hK hS hA hnw hgk (x_joinedTo9 l D ks H.size ad kk V L Z (V 70 gf) (V 75 gf) 0 (ow) ((jl gm (8 * o.toNat + nd.toNat))) hMV mup.2.2.2.2.1 (by rw [ko9, kn9]; exact (rn.2.2.1 o.toNat nd.toNat (by omega) (by omega)).1) (show 0 ≤ ((V 70 gf)).toInt from by omega) (show ((V 70 gf)).toInt < (V 3 13).toInt from by omega) (show 0 ≤ ((V 75 gf)).toInt from by (first | exact om_eafa9039069c r3.1 | omega)) (show ((V 75 gf)).toInt ≤ 7 from by omega) (show 0 ≤ (Int32.toInt 0) from by (first | exact om_1531b20f57e1 r19 | omega))) w1439 w1440 w1441 w164 w1442 rfl xgStock hdV_yX8_joinedTo ⟨Nat.le_of_ble_eq_true rfl, Nat.le_of_ble_eq_true rfl⟩ rfl hl.1 rfl (Nat.le_of_ble_eq_true rfl) dX5_callNeed_34 ⟨z0, z0⟩) hP hD hK hS hA (fun z20 u21 H locs w22 hP hD hK hS => ?_)
    have t23 := w22
    have t23 : JTo (jl gm (8 * o.toNat + nd.toNat)) (Int32.toInt 0).toNat z20.toInt := t23
    refine lv_istore_n (lv' := [(3, .int z20), (2, .int (V 60 (8 * (24 * b + (Int32.toNatClampNeg (V 71 gf))) + (Int32.toNatClampNeg (V 75 gf))))), (0, .ref (ad 5)), (1, .ref (Z.fa gf))]) hx hb dX5_callNeed_37 rfl hl (by decide) rfl (fun ls hl => ?_)
    have jt9 := t23
    rw [show (Int32.toInt 0).toNat = 0 from by decide] at jt9
    have ne9 := (bc.2.2.2.1.2.2 c.toNat cn9).2.2.2 nd.toNat nb7
    have kd9 : (V 60 (8 * (24 * b + (Int32.toNatClampNeg (V 71 gf))) + (Int32.toNatClampNeg (V 75 gf)))).toInt = ((bK gB c.toNat nd.toNat : Nat) : Int) := by rw [kc9, kn9]; exact ne9.2.1
    rcases jt9 with ⟨jz9, je9⟩ | ⟨x9, t8, je9, jz9⟩
    · skip
      have jd9 : jnd gm o.toNat nd.toNat 0 = none := jd_n je9
      refine lv_iload_n hx hb dX5_callNeed_38 rfl (lv_at hl 1 rfl) ?_
      refine lv_iconst (v := 2) hx hb dX5_callNeed_39 (by decide) ?_
      refine lv_icmp_ne (tgt := 67) hx hb dX5_callNeed_40 (by decide) (fun c24 => ?_) (fun c24 => ?_)
      · skip
        have f25 : ((V 60 (8 * (24 * b + (Int32.toNatClampNeg (V 71 gf))) + (Int32.toNatClampNeg (V 75 gf))))).toInt ≠ 2 := b_neq rfl (by decide) c24
        refine lv_iload_n hx hb dX5_callNeed_67 rfl (lv_at hl 1 rfl) ?_
        refine lv_iconst (v := 1) hx hb dX5_callNeed_68 (by decide) ?_
        refine lv_icmp_ne (tgt := 91) hx hb dX5_callNeed_69 (by decide) (fun c26 => ?_) (fun c26 => ?_)
        · skip
          have f27 : ((V 60 (8 * (24 * b + (Int32.toNatClampNeg (V 71 gf))) + (Int32.toNatClampNeg (V 75 gf))))).toInt ≠ 1 := b_neq rfl (by decide) c26
          refine lv_aload_n hx hb dX5_callNeed_91 rfl (lv_at hl 3 rfl) ?_
          refine lv_iconst (v := 1) hx hb dX5_callNeed_92 (by decide) ?_
          refine va_putN (D := D) (ci := 4) (v := .int 1) (ty := tyX4 1) (fs := (xfFrame V gf)) (C := RX4) (T := TX4) (N := 19) hx hb hg inX4 tyX4 tyX4_ok nmX4 hown hK hP hD hS (336 + gf) (xgFrame hgf) rfl 1 (by decide) (hnw.use 1190 n1190 rfl) (fun _ h9 => h9) rfl (tyX4_ok 1 (by decide)) rfl rfl (Nat.le_of_ble_eq_true rfl) dX5_callNeed_93 (fun H locs hP hD hS => ?_)
          obtain ⟨V28, hV28⟩ : ∃ z, z = up2 V 68 gf 1 := ⟨_, rfl⟩
          have ew29 : (xw ad kk V L Z).set (336 + gf) ((Z.fa gf), .inr (4, (xfFrame V gf).set 1 (.int 1))) = xw ad kk V28 L Z := by rw [hV28]; exact xpFrame_phase hgf
          have hP : va_P D vwCl (xw ad kk V28 L Z) H := by rw [← ew29]; exact hP
          have hD : va_D A (xw ad kk V28 L Z) := by rw [← ew29]; exact hD
          have hMV28 : rgd bX V28 := hMV.put hV28 (i_full _)
          have agV28 : agr [(5, 6), (5, 9), (5, 10), (5, 11), (5, 12)] [67, 68, 69, 70, 71, 72, 73, 74, 75, 76, 77, 78, 79, 80, 81, 82, 83, 84, 85] V V28 := agV.up hV28 rfl
          refine lv_aload_n hx hb dX5_callNeed_96 rfl (lv_at hl 2 rfl) ?_
          refine lv_iload_n hx hb dX5_callNeed_97 rfl (lv_at hl 0 rfl) ?_
          refine lv_aload_n hx hb dX5_callNeed_98 rfl (lv_at hl 3 rfl) ?_
          refine va_getN (D := D) (ci := 4) (v := .int (V28 72 gf)) (fs := (xfFrame V28 gf)) (C := RX4) (T := TX4) (N := 19) hx hb hg inX4 hown hK hP (336 + gf) (xgFrame hgf) rfl 5 (by decide) (hnw.use 1194 n1194 rfl) (fun _ h9 => h9) rfl dX5_callNeed_99 ?_
          refine g_top (v := (V 72 gf)) (up2_o hV28 (by decide)) ?_
          have r30 : 0 ≤ ((V 72 gf)).toInt ∧ ((V 72 gf)).toInt ≤ 39 := hMV 72 gf
          refine lv_aload_n hx hb dX5_callNeed_102 rfl (lv_at hl 3 rfl) ?_
          refine va_getN (D := D) (ci := 4) (v := .int (V28 77 gf)) (fs := (xfFrame V28 gf)) (C := RX4) (T := TX4) (N := 19) hx hb hg inX4 hown hK hP (336 + gf) (xgFrame hgf) rfl 10 (by decide) (hnw.use 1199 n1199 rfl) (fun _ h9 => h9) rfl dX5_callNeed_103 ?_
          refine g_top (v := (V 77 gf)) (up2_o hV28 (by decide)) ?_
          have r31 : 0 ≤ ((V 77 gf)).toInt ∧ ((V 77 gf)).toInt ≤ 19 := hMV 77 gf
          refine lv_aload_n hx hb dX5_callNeed_106 rfl (lv_at hl 3 rfl) ?_
          refine va_getN (D := D) (ci := 4) (v := .int (V28 78 gf)) (fs := (xfFrame V28 gf)) (C := RX4) (T := TX4) (N := 19) hx hb hg inX4 hown hK hP (336 + gf) (xgFrame hgf) rfl 11 (by decide) (hnw.use 1200 n1200 rfl) (fun _ h9 => h9) rfl dX5_callNeed_107 ?_
          refine g_top (v := (V 78 gf)) (up2_o hV28 (by decide)) ?_
          refine lv_aload_n hx hb dX5_callNeed_110 rfl (lv_at hl 3 rfl) ?_
          refine va_getN (D := D) (ci := 4) (v := .int (V28 69 gf)) (fs := (xfFrame V28 gf)) (C := RX4) (T := TX4) (N := 19) hx hb hg inX4 hown hK hP (336 + gf) (xgFrame hgf) rfl 2 (by decide) (hnw.use 1191 n1191 rfl) (fun _ h9 => h9) rfl dX5_callNeed_111 ?_
          refine g_top (v := (V 69 gf)) (up2_o hV28 (by decide)) ?_
          refine lv_iconst (v := 1) hx hb dX5_callNeed_114 (by decide) ?_
          refine lv_iadd hx hb dX5_callNeed_115 ?_
          have r32 := i_full (V 69 gf)
          refine lv_topi (fun z33 ez33 => ?_)
          have hz33 : Imp (-2147483648 ≤ ((V 69 gf)).toInt + 1 ∧ ((V 69 gf)).toInt + 1 ≤ 2147483647) (z33.toInt = ((V 69 gf)).toInt + 1) := Imp.mk (fun hp => i_add ez33 rfl (by decide) hp)
          have me34 : ME V V28 gf := (ME.up ME.rf hV28 (Or.inl ⟨by decide, by decide, Nat.le_refl _⟩))
          have pq35 : (V28 67 gf).toInt = ((V 67 gf)).toInt := congrArg Int32.toInt (up2_o hV28 (by decide))
          have pq36 : (V28 68 gf).toInt = 1 := (congrArg Int32.toInt (up2_s hV28)).trans (by decide)
          have pq37 : (V28 70 gf).toInt = ((V 70 gf)).toInt := congrArg Int32.toInt (up2_o hV28 (by decide))
          have pq38 : (V28 71 gf).toInt = ((V 71 gf)).toInt := congrArg Int32.toInt (up2_o hV28 (by decide))
          have pq39 : (V28 75 gf).toInt = ((V 75 gf)).toInt := congrArg Int32.toInt (up2_o hV28 (by decide))
          have pq40 : (V28 76 gf).toInt = ((V 76 gf)).toInt := congrArg Int32.toInt (up2_o hV28 (by decide))
          have pq41 : (V28 80 gf).toInt = ((V 80 gf)).toInt := congrArg Int32.toInt (up2_o hV28 (by decide))
          have pq42 : (V28 84 gf).toInt = ((V 84 gf)).toInt := congrArg Int32.toInt (up2_o hV28 (by decide))
          have pq43 : (V28 5 6).toInt = ((V 5 6)).toInt := congrArg Int32.toInt (up2_o hV28 (by decide))
          have pq44 : (V28 5 8).toInt = ((V 5 8)).toInt := congrArg Int32.toInt (up2_o hV28 (by decide))
          have pq45 : (V28 5 9).toInt = ((V 5 9)).toInt := congrArg Int32.toInt (up2_o hV28 (by decide))
          have pq46 : (V28 3 13).toInt = ((V 3 13)).toInt := congrArg Int32.toInt (up2_o hV28 (by decide))
          have pq47 : (V28 43 (5 * b + 2)).toInt = ((V 43 (5 * b + 2))).toInt := congrArg Int32.toInt (up2_o hV28 (by decide))
          have pq48 : (V28 42 b).toInt = ((V 42 b)).toInt := congrArg Int32.toInt (up2_o hV28 (by decide))
          have pq49 : (V28 41 b).toInt = ((V 41 b)).toInt := congrArg Int32.toInt (up2_o hV28 (by decide))
          have ep52 : V28 84 gf = (V 84 gf) := (up2_o hV28 (by decide))
          have af51 : (V28 42 b).toInt ≤ (V28 84 gf).toInt ∨ (bdp V28 b (V28 84 gf).toInt.toNat).1 = true := by rw [ep52, me34.1.bd, me34.1 42 b (by decide) (by decide)]; exact ft
          have mo50 : MO V28 Z b gf True True True := MO.ch mo me34 (up2_o hV28 (by decide)) (up2_o hV28 (by decide)) (fun _ => Or.inl (by omega)) (fun x h => FK.k4 (by first | omega | ((try (have i_hz33 := Imp.go hz33 (by omega))); omega)) (by first | omega | ((try (have i_hz33 := Imp.go hz33 (by omega))); omega)) (by first | omega | ((try (have i_hz33 := Imp.go hz33 (by omega))); omega)) af51 (by first | omega | ((try (have i_hz33 := Imp.go hz33 (by omega))); omega)) (fun hph => absurd hph (by omega)))
          have mt53 : MT V28 Z b := MO.mt mo50 (by (first | exact om_c09d41618ed8 hgf | omega)) (by (first | exact om_82fa09255765 gd pq43 | omega))
          refine W.know (fun k55 k56 => ?_)
          obtain ⟨Hk54, hHk54⟩ : ∃ z, z = H := ⟨_, rfl⟩
          have k55 : Hk54.size ≤ s.heap.size + (zcc Z - zcc Z) := by rw [hHk54]; exact k55
          have k56 : tot Hk54 ≤ tot s.heap + (zss Z - zss Z) := by rw [hHk54]; exact k56
          refine gZ_void (gA_runV (As := [.int z20, .int (V 72 gf), .int (V 77 gf), .int (V 78 gf), .int z33]) (rest := []) (ci := 5) (q0 := 5) hx hb hml hown hg hP hD hK hS hA hnw hgk (x_pushCall9 l D ks H.size ad kk V28 L Z z20 (V 72 gf) (V 77 gf) (V 78 gf) z33 (b) hMV28 (by first | exact om_13ba01c174fe r30.1 r30.2 | first | omega | ((try (have i_hz33 := Imp.go hz33 (by omega))); omega)) (by first | exact om_0916ac166aa8 r77.1 r77.2 | first | omega | ((try (have i_hz33 := Imp.go hz33 (by omega))); omega)) (show b < 2 from by first | exact om_f940a4667dd6 hb2 | first | omega | ((try (have i_hz33 := Imp.go hz33 (by omega))); omega)) mt53) w1454 w1455 w1456 w171 w1457 rfl xgMachine hdV_yX5_pushCall ⟨Nat.le_of_ble_eq_true rfl, Nat.le_of_ble_eq_true rfl⟩ rfl hl.1 rfl (Nat.le_of_ble_eq_true rfl) dX5_callNeed_116 ⟨z1 zoZ.1, z1 zoZ.2.1⟩) hD hS hA (fun u58 H locs w59 hP hD hK hS y60 y61 => ?_)
          obtain ⟨V62, L63, Z64⟩ := u58
          obtain ⟨hMV62, ajV62, axL63, zlZ64, t66, t67⟩ := w59
          have axL63 : L = L63 := Eq.symm axL63
          subst axL63
          have hP : va_P D vwCl (xw ad kk V62 L Z64) H := hP
          have hD : va_D A (xw ad kk V62 L Z64) := hD
          have hK : va_K D vwCl (xty kk Z64) s := hK
          have hMV62 : rgd bX V62 := hMV62
          have ajV62 : agr [(5, 6), (5, 9)] [67, 68, 69, 70, 71, 72, 73, 74, 75, 76, 77, 78, 79, 80, 81, 82, 83, 84, 85] V28 V62 := ajV62
          have agV62 : agr [(5, 6), (5, 9), (5, 10), (5, 11), (5, 12)] [67, 68, 69, 70, 71, 72, 73, 74, 75, 76, 77, 78, 79, 80, 81, 82, 83, 84, 85] V V62 := agV28.tr ajV62 (by decide) (by decide)
          have zlZ64 : ZL Z Z64 := zlZ64
          have zoZ64 : ZL Z Z64 := ZL.tr zoZ zlZ64
          have ziZ64 := zlZ64.1
          have zjZ64 := zlZ64.2.1
          have zkZ64 := zlZ64.2.2.1
          have zmZ64 := zoZ64.1
          have znZ64 := zoZ64.2.1
          have zpZ_Z64 := zoZ.1
          have zqZ_Z64 := zoZ.2.1
          have y60 : H.size ≤ Hk54.size + (zcc Z - zcc Z64) := by rw [hHk54]; exact y60
          have y61 : tot H ≤ tot Hk54 + (zss Z - zss Z64) := by rw [hHk54]; exact y61
          refine W.tight (k := zcc Z - zcc Z64) (n := zss Z - zss Z64) (by first | exact tg9 y60 k55 zlZ64.1 zoZ.1 | omega) (by first | exact tg9 y61 k56 zlZ64.2.1 zoZ.2.1 | omega) ?_
          have hl : lv_has ls 4 [(3, .int z20), (2, .int (V 60 (8 * (24 * b + (Int32.toNatClampNeg (V 71 gf))) + (Int32.toNatClampNeg (V 75 gf))))), (0, .ref (ad 5)), (1, .ref (Z64.fa gf))] := by rw [zlZ64.2.2.2.2 gf hgf]; exact hl
          have t66 : MJ V62 Z64 b := t66
          have t67 : Imp ((V28 5 6).toInt < 400) (PCa V28 V62 ((V28 5 6).toInt.toNat) z20 (V 72 gf) (V 77 gf) (V 78 gf) z33) := t67
          have pw := Imp.go t67 (by (first | exact om_f2444a3e49ba gd gl9 sl9 pq43 | omega))
          have pi9 : (V28 5 6).toInt.toNat = gr.length + 1 := by (first | exact om_e14d89dbab7d gd gl9 pq43 | omega)
          rw [pi9] at pw
          obtain ⟨⟨pd1, pd2, pke⟩, ⟨pk1, pk2⟩, p69, p70, p72, p73, p74, pc1, pc2, pc3⟩ := pw
          have wr68 := congrArg Int32.toInt p69
          have wr69 := congrArg Int32.toInt p70
          have wr70 := congrArg Int32.toInt p72
          have wr71 := congrArg Int32.toInt p73
          have lz9 : z33.toInt = (V 69 gf).toInt + 1 := i_add ez33 rfl (by decide) (by omega)
          have wr72 : (V62 3 13).toInt = (V 3 13).toInt := congrArg Int32.toInt ((ajV62 3 13 rfl).trans (up2_o hV28 (by decide)))
          have wr73 : (V62 3 12).toInt = (V 3 12).toInt := congrArg Int32.toInt ((ajV62 3 12 rfl).trans (up2_o hV28 (by decide)))
          have wr74 : (V62 67 gf).toInt = ((V 67 gf)).toInt := (congrArg Int32.toInt ((pke gf (by omega) 67 (by decide) (by decide)).trans (up2_o hV28 (by decide))))
          have wr75 : (V62 68 gf).toInt = 1 := (congrArg Int32.toInt ((pke gf (by omega) 68 (by decide) (by decide)).trans (up2_s hV28))).trans (by decide)
          have wr76 : (V62 69 gf).toInt = ((V 69 gf)).toInt := (congrArg Int32.toInt ((pke gf (by omega) 69 (by decide) (by decide)).trans (up2_o hV28 (by decide))))
          have wr77 : (V62 70 gf).toInt = ((V 70 gf)).toInt := (congrArg Int32.toInt ((pke gf (by omega) 70 (by decide) (by decide)).trans (up2_o hV28 (by decide))))
          have wr78 : (V62 71 gf).toInt = ((V 71 gf)).toInt := (congrArg Int32.toInt ((pke gf (by omega) 71 (by decide) (by decide)).trans (up2_o hV28 (by decide))))
          have wr79 : (V62 72 gf).toInt = ((V 72 gf)).toInt := (congrArg Int32.toInt ((pke gf (by omega) 72 (by decide) (by decide)).trans (up2_o hV28 (by decide))))
          have wr80 : (V62 84 gf).toInt = ((V 84 gf)).toInt := (congrArg Int32.toInt ((pke gf (by omega) 84 (by decide) (by decide)).trans (up2_o hV28 (by decide))))
          have me81 : ME V V28 gf := (ME.up ME.rf hV28 (Or.inl ⟨by decide, by decide, Nat.le_refl _⟩))
          have rl82 : RWl V62 gB gr t0 := RWl.mv hlr (fun i9 hi9 c9 h1 h2 => ((pke i9 (by omega) c9 h1 h2)).trans (me81.2.1 c9 i9 h1 h2 (by omega))) (fun j9 hj9 => ((ajV62 39 j9 rfl).trans (up2_o hV28 (by decide)))) (by rw [((ajV62 3 13 rfl).trans (up2_o hV28 (by decide)))]; exact Int.le_refl _) ((ajV62 3 12 rfl).trans (up2_o hV28 (by decide)))
          have fo8 : FRc V62 gB gr.length (Fwait lv o c sc 0 0 at9 v p) := by rw [gl9]; exact ⟨⟨by omega, by omega⟩, ⟨by omega, ⟨by omega, by omega, by omega⟩, ⟨by omega, by omega, by omega⟩, ⟨by omega, by omega, by omega⟩⟩, (fun h9 => absurd h9 (by decide)), ⟨a0, by omega⟩, ((pke gf (by omega) 74 (by decide) (by decide)).trans ((up2_o hV28 (by decide)).trans q74))⟩
          have rl83 : RWl V62 gB (Fwait lv o c sc 0 0 at9 v p :: gr) tw9 := ⟨t0, tl7, fo8, fun _ _ => (by rw [gl9, ((pke gf (by omega) 85 (by decide) (by decide)).trans (up2_o hV28 (by decide)))]; exact hb8), plC.mv hp8 (fun j9 _ => (show agr [(5, 6), (5, 9)] [67, 68, 69, 70, 71, 72, 73, 74, 75, 76, 77, 78, 79, 80, 81, 82, 83, 84, 85] V V62 from (agr.tr (agr.up agr.rf hV28 rfl) ajV62 (by decide) (by decide))) 39 j9 rfl), rl82⟩
          have b13 : (V28 3 13).toInt = (V 3 13).toInt := congrArg Int32.toInt ((up2_o hV28 (by decide)))
          have n249 := bc.2.2.2.1.2.1
          have c71 : (0 ≤ (-1 : Int) → (V62 71 (gr.length + 1)).toInt = 0) ∧ (0 ≤ (V62 71 (gr.length + 1)).toInt ∧ (V62 71 (gr.length + 1)).toInt < ((nC gB : Nat) : Int)) := by
            by_cases h9 : 0 ≤ (-1 : Int)
            · have h8 := pc1 ⟨by omega, by omega⟩
              have h7 := rn.2.1 (-1 : Int).toNat (by omega)
              have h6 : Int32.toNatClampNeg z20 = (-1 : Int).toNat := by have h5 := i_clamp (x := z20) rfl (by omega); omega
              rw [h6, (up2_o hV28 (by decide))] at h8
              have h5 := congrArg Int32.toInt h8
              have h4 := h7.1.1
              have h3 := h7.2.2.1
              exact ⟨fun _ => by omega, by omega, by omega⟩
            · have h8 := pc2 (fun h7 => h9 (by omega))
              exact ⟨fun h7 => absurd h7 h9, by omega, by omega⟩
          have ft9 : FRc V62 gB (gr.length + 1) (Fcall0 (lv + 1) (-1 : Int) 0 sc tg g) := ⟨⟨pk1, pk2⟩, by omega, by omega, fun h9 => ⟨by omega, c71.1 h9⟩, c71.2, ⟨by omega, by omega, by omega⟩, ⟨by omega, by omega, by omega⟩, p74.trans q78⟩
          have rz9 : RW V62 gB (mU gm 0 6 0, ga, Fcall0 (lv + 1) (-1 : Int) 0 sc tg g :: Fwait lv o c sc 0 0 at9 v p :: gr) := RW.sgn rwq (ESw.ag (show agr [(5, 6), (5, 9)] [67, 68, 69, 70, 71, 72, 73, 74, 75, 76, 77, 78, 79, 80, 81, 82, 83, 84, 85] V V62 from (agr.tr (agr.up agr.rf hV28 rfl) ajV62 (by decide) (by decide))) (by decide)) pd2 (fun h9 => absurd h9 (by decide)) (fun h9 => absurd h9 (by decide)) (show (V62 5 6).toInt = ((gr.length + 1 + 1 : Nat) : Int) from by omega) (show (V62 5 7).toInt = ((tw9 : Nat) : Int) from by rw [((ajV62 5 7 rfl).trans (up2_o hV28 (by decide)))]; exact rt9) (RWl.push rl83 ft9 rfl (np9 rfl))
          have rx84 : RW V62 gB (stM gB (gm, ga, gfr :: gr)) := by rw [hfe, st_14n (show ¬ bK gB c.toNat nd.toNat = 2 from by omega) jd9 (show ¬ bK gB c.toNat nd.toNat = 1 from by omega)]; exact rz9
          refine W.know (fun kr1 kr2 => ?_)
          refine W.widen (k := zcc Z) (n := zss Z) (Nat.sub_le _ _) (Nat.sub_le _ _) ?_
          exact W.vret hx hb hr (fun t ht hW => ⟨⟨(V62, L, Z64), rfl, ⟨hMV62, agV62, rfl, zoZ64, t66, rx84⟩, ⟨by rw [ht]; exact hP, va_K.moved hW.alike hK, hD⟩, by rw [ht]; exact kr1, by rw [ht]; exact kr2⟩, hS.F ht⟩) hS.2.2 dX5_callNeed_119
        · skip
          have f85 : ((V 60 (8 * (24 * b + (Int32.toNatClampNeg (V 71 gf))) + (Int32.toNatClampNeg (V 75 gf))))).toInt = 1 := b_eq rfl (by decide) c26
          refine lv_iload_n hx hb dX5_callNeed_72 rfl (lv_at hl 0 rfl) ?_
          refine lv_iconst (v := (-1)) hx hb dX5_callNeed_73 (by decide) ?_
          refine lv_icmp_ne (tgt := 91) hx hb dX5_callNeed_74 (by decide) (fun c86 => ?_) (fun c86 => ?_)
          · skip
            have f87 : z20.toInt ≠ (-1) := b_neq rfl (by decide) c86
            exfalso; omega
          · skip
            have f88 : z20.toInt = (-1) := b_eq rfl (by decide) c86
            refine lv_aload_n hx hb dX5_callNeed_77 rfl (lv_at hl 3 rfl) ?_
            refine lv_bipush (v := 7) hx hb dX5_callNeed_78 (by decide) ?_
            refine va_putN (D := D) (ci := 4) (v := .int 7) (ty := tyX4 1) (fs := (xfFrame V gf)) (C := RX4) (T := TX4) (N := 19) hx hb hg inX4 tyX4 tyX4_ok nmX4 hown hK hP hD hS (336 + gf) (xgFrame hgf) rfl 1 (by decide) (hnw.use 1190 n1190 rfl) (fun _ h9 => h9) rfl (tyX4_ok 1 (by decide)) rfl rfl (Nat.le_of_ble_eq_true rfl) dX5_callNeed_80 (fun H locs hP hD hS => ?_)
            obtain ⟨V89, hV89⟩ : ∃ z, z = up2 V 68 gf 7 := ⟨_, rfl⟩
            have ew90 : (xw ad kk V L Z).set (336 + gf) ((Z.fa gf), .inr (4, (xfFrame V gf).set 1 (.int 7))) = xw ad kk V89 L Z := by rw [hV89]; exact xpFrame_phase hgf
            have hP : va_P D vwCl (xw ad kk V89 L Z) H := by rw [← ew90]; exact hP
            have hD : va_D A (xw ad kk V89 L Z) := by rw [← ew90]; exact hD
            have hMV89 : rgd bX V89 := hMV.put hV89 (i_full _)
            have agV89 : agr [(5, 6), (5, 9), (5, 10), (5, 11), (5, 12)] [67, 68, 69, 70, 71, 72, 73, 74, 75, 76, 77, 78, 79, 80, 81, 82, 83, 84, 85] V V89 := agV.up hV89 rfl
            have wr91 : (V89 3 13).toInt = (V 3 13).toInt := congrArg Int32.toInt (up2_o hV89 (by decide))
            have wr92 : (V89 3 12).toInt = (V 3 12).toInt := congrArg Int32.toInt (up2_o hV89 (by decide))
            have wr93 : (V89 67 gf).toInt = ((V 67 gf)).toInt := (congrArg Int32.toInt (up2_o hV89 (by decide)))
            have wr94 : (V89 68 gf).toInt = 7 := (congrArg Int32.toInt (up2_s hV89)).trans (by decide)
            have wr95 : (V89 69 gf).toInt = ((V 69 gf)).toInt := (congrArg Int32.toInt (up2_o hV89 (by decide)))
            have wr96 : (V89 70 gf).toInt = ((V 70 gf)).toInt := (congrArg Int32.toInt (up2_o hV89 (by decide)))
            have wr97 : (V89 71 gf).toInt = ((V 71 gf)).toInt := (congrArg Int32.toInt (up2_o hV89 (by decide)))
            have wr98 : (V89 72 gf).toInt = ((V 72 gf)).toInt := (congrArg Int32.toInt (up2_o hV89 (by decide)))
            have wr99 : (V89 75 gf).toInt = ((V 75 gf)).toInt := (congrArg Int32.toInt (up2_o hV89 (by decide)))
            have wr100 : (V89 76 gf).toInt = ((V 76 gf)).toInt := (congrArg Int32.toInt (up2_o hV89 (by decide)))
            have wr101 : (V89 77 gf).toInt = ((V 77 gf)).toInt := (congrArg Int32.toInt (up2_o hV89 (by decide)))
            have wr102 : (V89 84 gf).toInt = ((V 84 gf)).toInt := (congrArg Int32.toInt (up2_o hV89 (by decide)))
            have me103 : ME V V89 gf := (ME.up ME.rf hV89 (Or.inl ⟨by decide, by decide, Nat.le_refl _⟩))
            have rl104 : RWl V89 gB gr t0 := RWl.mv hlr (fun i9 hi9 c9 h1 h2 => me103.2.1 c9 i9 h1 h2 (by omega)) (fun j9 hj9 => (up2_o hV89 (by decide))) (by rw [(up2_o hV89 (by decide))]; exact Int.le_refl _) (up2_o hV89 (by decide))
            have fo8 : FRc V89 gB gr.length (Fget lv o c sc at9 nd tg v g p) := by rw [gl9]; exact ⟨⟨by omega, by omega⟩, ⟨by omega, ⟨by omega, by omega, by omega⟩, ⟨by omega, by omega, by omega⟩, ⟨by omega, by omega, by omega⟩⟩, ⟨a0, by omega⟩, by omega, by omega, ((up2_o hV89 (by decide)).trans q74), ((up2_o hV89 (by decide)).trans q78)⟩
            have rl105 : RWl V89 gB (Fget lv o c sc at9 nd tg v g p :: gr) tw9 := ⟨t0, tl7, fo8, fun _ _ => (by rw [gl9, (up2_o hV89 (by decide))]; exact hb8), plC.mv hp8 (fun j9 _ => (up2_o hV89 (by decide))), rl104⟩
            have pq106 : (V89 5 6).toInt = ((V 5 6)).toInt := congrArg Int32.toInt (up2_o hV89 (by decide))
            have rwx9 : RW V89 gB (gm, ga, Fget lv o c sc at9 nd tg v g p :: gr) := RW.id rwq (ESw.ag (show agr [] [68] V V89 from (agr.up agr.rf hV89 rfl)) (by decide)) (up2_o hV89 (by decide)) (up2_o hV89 (by decide)) (up2_o hV89 (by decide)) (up2_o hV89 (by decide)) (show (V89 5 6).toInt = ((gr.length + 1 : Nat) : Int) from by (first | exact om_ccabef0d2974 gd gl9 pq106 | omega)) (show (V89 5 7).toInt = ((tw9 : Nat) : Int) from by rw [(up2_o hV89 (by decide))]; exact rt9) rl105
            have e71 : (V89 71 gf).toInt = c := by omega
            have e75 : (V89 75 gf).toInt = nd := by omega
            have e69 : (V89 69 gf).toInt = lv := by omega
            have e72 : (V89 72 gf).toInt = sc := by omega
            refine lv_aload_n hx hb dX5_callNeed_83 rfl (lv_at hl 2 rfl) ?_
            refine lv_aload_n hx hb dX5_callNeed_84 rfl (lv_at hl 3 rfl) ?_
            have pq107 : (V89 67 gf).toInt = ((V 67 gf)).toInt := congrArg Int32.toInt (up2_o hV89 (by decide))
            have pq108 : (V89 68 gf).toInt = 7 := (congrArg Int32.toInt (up2_s hV89)).trans (by decide)
            have me109 : ME V V89 gf := (ME.up ME.rf hV89 (Or.inl ⟨by decide, by decide, Nat.le_refl _⟩))
            have pq110 : (V89 70 gf).toInt = ((V 70 gf)).toInt := congrArg Int32.toInt (up2_o hV89 (by decide))
            have pq111 : (V89 71 gf).toInt = ((V 71 gf)).toInt := congrArg Int32.toInt (up2_o hV89 (by decide))
            have pq112 : (V89 75 gf).toInt = ((V 75 gf)).toInt := congrArg Int32.toInt (up2_o hV89 (by decide))
            have pq113 : (V89 76 gf).toInt = ((V 76 gf)).toInt := congrArg Int32.toInt (up2_o hV89 (by decide))
            have pq114 : (V89 80 gf).toInt = ((V 80 gf)).toInt := congrArg Int32.toInt (up2_o hV89 (by decide))
            have pq115 : (V89 84 gf).toInt = ((V 84 gf)).toInt := congrArg Int32.toInt (up2_o hV89 (by decide))
            have pq116 : (V89 5 8).toInt = ((V 5 8)).toInt := congrArg Int32.toInt (up2_o hV89 (by decide))
            have pq117 : (V89 5 9).toInt = ((V 5 9)).toInt := congrArg Int32.toInt (up2_o hV89 (by decide))
            have pq118 : (V89 3 13).toInt = ((V 3 13)).toInt := congrArg Int32.toInt (up2_o hV89 (by decide))
            have pq119 : (V89 43 (5 * b + 2)).toInt = ((V 43 (5 * b + 2))).toInt := congrArg Int32.toInt (up2_o hV89 (by decide))
            have pq120 : (V89 42 b).toInt = ((V 42 b)).toInt := congrArg Int32.toInt (up2_o hV89 (by decide))
            have pq121 : (V89 41 b).toInt = ((V 41 b)).toInt := congrArg Int32.toInt (up2_o hV89 (by decide))
            have ep124 : V89 84 gf = (V 84 gf) := (up2_o hV89 (by decide))
            have af123 : (V89 42 b).toInt ≤ (V89 84 gf).toInt ∨ (bdp V89 b (V89 84 gf).toInt.toNat).1 = true := by rw [ep124, me109.1.bd, me109.1 42 b (by decide) (by decide)]; exact ft
            have mo122 : MO V89 Z b gf True False True := MO.ch mo me109 (up2_o hV89 (by decide)) (up2_o hV89 (by decide)) (fun _ => Or.inl (by omega)) (fun x h => FK.k4 (by omega) (by omega) (by omega) af123 (by omega) (fun _ z => z.elim))
            have me125 : ME V V89 0 := (ME.up ME.rf hV89 (Or.inl ⟨by decide, by decide, by omega⟩))
            have bc126 : BKc V89 b gB := BKc.be bc me125.1
            refine W.know (fun k128 k129 => ?_)
            obtain ⟨Hk127, hHk127⟩ : ∃ z, z = H := ⟨_, rfl⟩
            have k128 : Hk127.size ≤ s.heap.size + (zcc Z - zcc Z) := by rw [hHk127]; exact k128
            have k129 : tot Hk127 ≤ tot s.heap + (zss Z - zss Z) := by rw [hHk127]; exact k129
            refine gZ_void (gA_runV (As := [.ref (Z.fa gf)]) (rest := []) (ci := 5) (q0 := 5) hx hb hml hown hg hP hD hK hS hA hnw hgk (x_getLate9 l D ks H.size ad kk V89 L Z (b) (gf) (gB) (gm) (ga) ((Fget lv o c sc at9 nd tg v g p)) (gr) hMV89 (show b < 2 from by (first | exact om_f940a4667dd6 hb2 | omega)) (show gf < Z.nf from by (first | exact om_8c5722e49bb1 hgf | omega)) mo122 (show (gf : Int) + 1 = (V89 5 6).toInt from by (first | exact om_6e5bbaaa0e03 gd pq106 | omega)) (show (V89 67 gf).toInt = 4 from by (first | exact om_ac6651f4ff0c gk wr93 | omega)) (show (V89 68 gf).toInt = 7 from by (first | exact om_ba873a6da76b wr94 | omega)) rwx9 bc126 (show (V89 5 6).toInt ≤ 395 from by (first | exact om_4d13a6667c0a gd gl9 sl9 pq106 | omega)) (by rw [e71, e75]; exact nb7) (by rw [e71, e75]; exact bc7 (by omega)) (show (V89 69 gf).toInt ≤ 10 from by omega)) w1443 w1445 w69 w171 w1446 rfl xgMachine hdV_yX5_getLate ⟨Nat.le_of_ble_eq_true rfl, Nat.le_of_ble_eq_true rfl⟩ rfl hl.1 rfl (Nat.le_of_ble_eq_true rfl) dX5_callNeed_85 ⟨z1 zoZ.1, z1 zoZ.2.1⟩) hD hS hA (fun u131 H locs w132 hP hD hK hS y133 y134 => ?_)
            obtain ⟨V135, L136, Z137⟩ := u131
            obtain ⟨hMV135, ajV135, axL136, zlZ137, t139, t140⟩ := w132
            have axL136 : L = L136 := Eq.symm axL136
            subst axL136
            have hP : va_P D vwCl (xw ad kk V135 L Z137) H := hP
            have hD : va_D A (xw ad kk V135 L Z137) := hD
            have hK : va_K D vwCl (xty kk Z137) s := hK
            have hMV135 : rgd bX V135 := hMV135
            have ajV135 : agr [(5, 6), (5, 9), (5, 11), (5, 12)] [67, 68, 69, 70, 71, 72, 73, 74, 75, 76, 77, 78, 79, 80, 81, 82, 83, 84, 85] V89 V135 := ajV135
            have agV135 : agr [(5, 6), (5, 9), (5, 10), (5, 11), (5, 12)] [67, 68, 69, 70, 71, 72, 73, 74, 75, 76, 77, 78, 79, 80, 81, 82, 83, 84, 85] V V135 := agV89.tr ajV135 (by decide) (by decide)
            have zlZ137 : ZL Z Z137 := zlZ137
            have zoZ137 : ZL Z Z137 := ZL.tr zoZ zlZ137
            have ziZ137 := zlZ137.1
            have zjZ137 := zlZ137.2.1
            have zkZ137 := zlZ137.2.2.1
            have zmZ137 := zoZ137.1
            have znZ137 := zoZ137.2.1
            have zpZ_Z137 := zoZ.1
            have zqZ_Z137 := zoZ.2.1
            have y133 : H.size ≤ Hk127.size + (zcc Z - zcc Z137) := by rw [hHk127]; exact y133
            have y134 : tot H ≤ tot Hk127 + (zss Z - zss Z137) := by rw [hHk127]; exact y134
            refine W.tight (k := zcc Z - zcc Z137) (n := zss Z - zss Z137) (by first | exact tg9 y133 k128 zlZ137.1 zoZ.1 | omega) (by first | exact tg9 y134 k129 zlZ137.2.1 zoZ.2.1 | omega) ?_
            have hl : lv_has ls 4 [(3, .int z20), (2, .int (V 60 (8 * (24 * b + (Int32.toNatClampNeg (V 71 gf))) + (Int32.toNatClampNeg (V 75 gf))))), (0, .ref (ad 5)), (1, .ref (Z137.fa gf))] := by rw [zlZ137.2.2.2.2 gf hgf]; exact hl
            have t139 : MJ V135 Z137 b := t139
            have t140 : RW V135 gB (lateM gB gm ga gr (V89 69 gf).toInt (V89 71 gf).toInt (V89 72 gf).toInt (V89 75 gf).toInt (Fget lv o c sc at9 nd tg v g p)) := t140
            refine lv_goto (tgt := 119) hx hb dX5_callNeed_88 (by decide) ?_
            have rx141 : RW V135 gB (stM gB (gm, ga, gfr :: gr)) := by have h9 := t140; rw [e69, e71, e72, e75] at h9; rw [hfe]; unfold lateM at h9; by_cases h8 : 10 ≤ lv; (rw [if_pos h8] at h9; rw [st_14d (show bK gB c.toNat nd.toNat = 1 from by (first | exact om_7a8d26f5d514 kd9 f85 | omega)) jd9 h8]; exact h9); (rw [if_neg h8] at h9; rw [st_14g (show bK gB c.toNat nd.toNat = 1 from by (first | exact om_7a8d26f5d514 kd9 f85 | omega)) jd9 h8]; exact h9)
            refine W.know (fun kr1 kr2 => ?_)
            refine W.widen (k := zcc Z) (n := zss Z) (Nat.sub_le _ _) (Nat.sub_le _ _) ?_
            exact W.vret hx hb hr (fun t ht hW => ⟨⟨(V135, L, Z137), rfl, ⟨hMV135, agV135, rfl, zoZ137, t139, rx141⟩, ⟨by rw [ht]; exact hP, va_K.moved hW.alike hK, hD⟩, by rw [ht]; exact kr1, by rw [ht]; exact kr2⟩, hS.F ht⟩) hS.2.2 dX5_callNeed_119
      · skip
        have f142 : ((V 60 (8 * (24 * b + (Int32.toNatClampNeg (V 71 gf))) + (Int32.toNatClampNeg (V 75 gf))))).toInt = 2 := b_eq rfl (by decide) c24
        refine lv_aload_n hx hb dX5_callNeed_43 rfl (lv_at hl 3 rfl) ?_
        refine lv_bipush (v := 8) hx hb dX5_callNeed_44 (by decide) ?_
        refine va_putN (D := D) (ci := 4) (v := .int 8) (ty := tyX4 1) (fs := (xfFrame V gf)) (C := RX4) (T := TX4) (N := 19) hx hb hg inX4 tyX4 tyX4_ok nmX4 hown hK hP hD hS (336 + gf) (xgFrame hgf) rfl 1 (by decide) (hnw.use 1190 n1190 rfl) (fun _ h9 => h9) rfl (tyX4_ok 1 (by decide)) rfl rfl (Nat.le_of_ble_eq_true rfl) dX5_callNeed_46 (fun H locs hP hD hS => ?_)
        obtain ⟨V143, hV143⟩ : ∃ z, z = up2 V 68 gf 8 := ⟨_, rfl⟩
        have ew144 : (xw ad kk V L Z).set (336 + gf) ((Z.fa gf), .inr (4, (xfFrame V gf).set 1 (.int 8))) = xw ad kk V143 L Z := by rw [hV143]; exact xpFrame_phase hgf
        have hP : va_P D vwCl (xw ad kk V143 L Z) H := by rw [← ew144]; exact hP
        have hD : va_D A (xw ad kk V143 L Z) := by rw [← ew144]; exact hD
        have hMV143 : rgd bX V143 := hMV.put hV143 (i_full _)
        have agV143 : agr [(5, 6), (5, 9), (5, 10), (5, 11), (5, 12)] [67, 68, 69, 70, 71, 72, 73, 74, 75, 76, 77, 78, 79, 80, 81, 82, 83, 84, 85] V V143 := agV.up hV143 rfl
        refine lv_aload_n hx hb dX5_callNeed_49 rfl (lv_at hl 3 rfl) ?_
        refine lv_iconst (v := 0) hx hb dX5_callNeed_50 (by decide) ?_
        refine va_putN (D := D) (ci := 4) (v := .int 0) (ty := tyX4 9) (fs := (xfFrame V143 gf)) (C := RX4) (T := TX4) (N := 19) hx hb hg inX4 tyX4 tyX4_ok nmX4 hown hK hP hD hS (336 + gf) (xgFrame hgf) rfl 9 (by decide) (hnw.use 1198 n1198 rfl) (fun _ h9 => h9) rfl (tyX4_ok 9 (by decide)) rfl rfl (Nat.le_of_ble_eq_true rfl) dX5_callNeed_51 (fun H locs hP hD hS => ?_)
        obtain ⟨V145, hV145⟩ : ∃ z, z = up2 V143 76 gf 0 := ⟨_, rfl⟩
        have ew146 : (xw ad kk V143 L Z).set (336 + gf) ((Z.fa gf), .inr (4, (xfFrame V143 gf).set 9 (.int 0))) = xw ad kk V145 L Z := by rw [hV145]; exact xpFrame_item hgf
        have hP : va_P D vwCl (xw ad kk V145 L Z) H := by rw [← ew146]; exact hP
        have hD : va_D A (xw ad kk V145 L Z) := by rw [← ew146]; exact hD
        have hMV145 : rgd bX V145 := hMV143.put hV145 (i_full _)
        have agV145 : agr [(5, 6), (5, 9), (5, 10), (5, 11), (5, 12)] [67, 68, 69, 70, 71, 72, 73, 74, 75, 76, 77, 78, 79, 80, 81, 82, 83, 84, 85] V V145 := agV143.up hV145 rfl
        refine lv_aload_n hx hb dX5_callNeed_54 rfl (lv_at hl 3 rfl) ?_
        refine lv_iconst (v := 0) hx hb dX5_callNeed_55 (by decide) ?_
        refine va_putN (D := D) (ci := 4) (v := .int 0) (ty := tyX4 12) (fs := (xfFrame V145 gf)) (C := RX4) (T := TX4) (N := 19) hx hb hg inX4 tyX4 tyX4_ok nmX4 hown hK hP hD hS (336 + gf) (xgFrame hgf) rfl 12 (by decide) (hnw.use 1201 n1201 rfl) (fun _ h9 => h9) rfl (tyX4_ok 12 (by decide)) rfl rfl (Nat.le_of_ble_eq_true rfl) dX5_callNeed_56 (fun H locs hP hD hS => ?_)
        obtain ⟨V147, hV147⟩ : ∃ z, z = up2 V145 79 gf 0 := ⟨_, rfl⟩
        have ew148 : (xw ad kk V145 L Z).set (336 + gf) ((Z.fa gf), .inr (4, (xfFrame V145 gf).set 12 (.int 0))) = xw ad kk V147 L Z := by rw [hV147]; exact xpFrame_sum hgf
        have hP : va_P D vwCl (xw ad kk V147 L Z) H := by rw [← ew148]; exact hP
        have hD : va_D A (xw ad kk V147 L Z) := by rw [← ew148]; exact hD
        have hMV147 : rgd bX V147 := hMV145.put hV147 (i_full _)
        have agV147 : agr [(5, 6), (5, 9), (5, 10), (5, 11), (5, 12)] [67, 68, 69, 70, 71, 72, 73, 74, 75, 76, 77, 78, 79, 80, 81, 82, 83, 84, 85] V V147 := agV145.up hV147 rfl
        refine lv_aload_n hx hb dX5_callNeed_59 rfl (lv_at hl 2 rfl) ?_
        refine lv_iconst (v := 0) hx hb dX5_callNeed_60 (by decide) ?_
        refine gA_void (gA_runV (As := [.int 0]) (rest := []) (ci := 5) (q0 := 5) hx hb hml hown hg hP hD hK hS hA hnw hgk (x_answerWith9 l D ks H.size ad kk V147 L Z 0 hMV147 ) w1304 w1306 w49 w171 w1307 rfl xgMachine hdV_yX5_answerWith ⟨Nat.le_of_ble_eq_true rfl, Nat.le_of_ble_eq_true rfl⟩ rfl hl.1 rfl (Nat.le_of_ble_eq_true rfl) dX5_callNeed_61 ⟨z0, z0⟩) hP hD hK hS hA (fun u150 H locs w151 hP hD hK hS => ?_)
        obtain ⟨V155, L156⟩ := u150
        obtain ⟨hMV155, ajV155, axL156, t152, t153, t154⟩ := w151
        have axL156 : L = L156 := Eq.symm axL156
        subst axL156
        have hP : va_P D vwCl (xw ad kk V155 L Z) H := hP
        have hD : va_D A (xw ad kk V155 L Z) := hD
        have hMV155 : rgd bX V155 := hMV155
        have ajV155 : agr [(5, 9), (5, 10)] [] V147 V155 := ajV155
        have agV155 : agr [(5, 6), (5, 9), (5, 10), (5, 11), (5, 12)] [67, 68, 69, 70, 71, 72, 73, 74, 75, 76, 77, 78, 79, 80, 81, 82, 83, 84, 85] V V155 := agV147.tr ajV155 (by decide) (by decide)
        have t152 : (V155 5 9).toInt = 1 := t152
        have t153 : (V155 5 10).toInt = (Int32.toInt 0) := t153
        have t154 : ((True) ∧ V155 = (up2 (up2 V147 5 9 1) 5 10 0)) := t154
        have r157 : 0 ≤ ((V155 5 9)).toInt ∧ ((V155 5 9)).toInt ≤ 3 := hMV155 5 9
        have hw158 := t154.2
        obtain ⟨V159, hV159⟩ : ∃ z, z = up2 V147 5 9 1 := ⟨_, rfl⟩
        have hV155 : V155 = up2 V159 5 10 0 := by rw [hw158, hV159]
        refine lv_goto (tgt := 119) hx hb dX5_callNeed_64 (by decide) ?_
        have me160 : ME V V155 gf := (ME.up (ME.up (ME.up (ME.up (ME.up ME.rf hV143 (Or.inl ⟨by decide, by decide, Nat.le_refl _⟩)) hV145 (Or.inl ⟨by decide, by decide, Nat.le_refl _⟩)) hV147 (Or.inl ⟨by decide, by decide, Nat.le_refl _⟩)) hV159 (Or.inr (by omega))) hV155 (Or.inr (by omega)))
        have pq161 : (V155 67 gf).toInt = ((V 67 gf)).toInt := congrArg Int32.toInt ((up2_o hV155 (by decide)).trans ((up2_o hV159 (by decide)).trans ((up2_o hV147 (by decide)).trans ((up2_o hV145 (by decide)).trans (up2_o hV143 (by decide))))))
        have pq162 : (V155 68 gf).toInt = 8 := (congrArg Int32.toInt ((up2_o hV155 (by decide)).trans ((up2_o hV159 (by decide)).trans ((up2_o hV147 (by decide)).trans ((up2_o hV145 (by decide)).trans (up2_s hV143)))))).trans (by decide)
        have pq163 : (V155 70 gf).toInt = ((V 70 gf)).toInt := congrArg Int32.toInt ((up2_o hV155 (by decide)).trans ((up2_o hV159 (by decide)).trans ((up2_o hV147 (by decide)).trans ((up2_o hV145 (by decide)).trans (up2_o hV143 (by decide))))))
        have pq164 : (V155 71 gf).toInt = ((V 71 gf)).toInt := congrArg Int32.toInt ((up2_o hV155 (by decide)).trans ((up2_o hV159 (by decide)).trans ((up2_o hV147 (by decide)).trans ((up2_o hV145 (by decide)).trans (up2_o hV143 (by decide))))))
        have pq165 : (V155 75 gf).toInt = ((V 75 gf)).toInt := congrArg Int32.toInt ((up2_o hV155 (by decide)).trans ((up2_o hV159 (by decide)).trans ((up2_o hV147 (by decide)).trans ((up2_o hV145 (by decide)).trans (up2_o hV143 (by decide))))))
        have pq166 : (V155 76 gf).toInt = 0 := (congrArg Int32.toInt ((up2_o hV155 (by decide)).trans ((up2_o hV159 (by decide)).trans ((up2_o hV147 (by decide)).trans (up2_s hV145))))).trans (by decide)
        have pq167 : (V155 80 gf).toInt = ((V 80 gf)).toInt := congrArg Int32.toInt ((up2_o hV155 (by decide)).trans ((up2_o hV159 (by decide)).trans ((up2_o hV147 (by decide)).trans ((up2_o hV145 (by decide)).trans (up2_o hV143 (by decide))))))
        have pq168 : (V155 84 gf).toInt = ((V 84 gf)).toInt := congrArg Int32.toInt ((up2_o hV155 (by decide)).trans ((up2_o hV159 (by decide)).trans ((up2_o hV147 (by decide)).trans ((up2_o hV145 (by decide)).trans (up2_o hV143 (by decide))))))
        have pq169 : (V155 5 6).toInt = ((V 5 6)).toInt := congrArg Int32.toInt ((up2_k hV155 (by decide)).trans ((up2_k hV159 (by decide)).trans ((up2_o hV147 (by decide)).trans ((up2_o hV145 (by decide)).trans (up2_o hV143 (by decide))))))
        have pq170 : (V155 5 8).toInt = ((V 5 8)).toInt := congrArg Int32.toInt ((up2_k hV155 (by decide)).trans ((up2_k hV159 (by decide)).trans ((up2_o hV147 (by decide)).trans ((up2_o hV145 (by decide)).trans (up2_o hV143 (by decide))))))
        have pq171 : (V155 5 9).toInt = 1 := (congrArg Int32.toInt ((up2_k hV155 (by decide)).trans (up2_s hV159))).trans (by decide)
        have pq172 : (V155 3 13).toInt = ((V 3 13)).toInt := congrArg Int32.toInt ((up2_o hV155 (by decide)).trans ((up2_o hV159 (by decide)).trans ((up2_o hV147 (by decide)).trans ((up2_o hV145 (by decide)).trans (up2_o hV143 (by decide))))))
        have pq173 : (V155 43 (5 * b + 2)).toInt = ((V 43 (5 * b + 2))).toInt := congrArg Int32.toInt ((up2_o hV155 (by decide)).trans ((up2_o hV159 (by decide)).trans ((up2_o hV147 (by decide)).trans ((up2_o hV145 (by decide)).trans (up2_o hV143 (by decide))))))
        have pq174 : (V155 42 b).toInt = ((V 42 b)).toInt := congrArg Int32.toInt ((up2_o hV155 (by decide)).trans ((up2_o hV159 (by decide)).trans ((up2_o hV147 (by decide)).trans ((up2_o hV145 (by decide)).trans (up2_o hV143 (by decide))))))
        have pq175 : (V155 41 b).toInt = ((V 41 b)).toInt := congrArg Int32.toInt ((up2_o hV155 (by decide)).trans ((up2_o hV159 (by decide)).trans ((up2_o hV147 (by decide)).trans ((up2_o hV145 (by decide)).trans (up2_o hV143 (by decide))))))
        have ep178 : V155 84 gf = (V 84 gf) := ((up2_o hV155 (by decide)).trans ((up2_o hV159 (by decide)).trans ((up2_o hV147 (by decide)).trans ((up2_o hV145 (by decide)).trans (up2_o hV143 (by decide))))))
        have af177 : (V155 42 b).toInt ≤ (V155 84 gf).toInt ∨ (bdp V155 b (V155 84 gf).toInt.toNat).1 = true := by rw [ep178, me160.1.bd, me160.1 42 b (by decide) (by decide)]; exact ft
        have mo176 : MO V155 Z b gf True (QN V155 b) (QN V155 b) := MO.ch mo me160 ((up2_o hV155 (by decide)).trans ((up2_o hV159 (by decide)).trans ((up2_o hV147 (by decide)).trans ((up2_o hV145 (by decide)).trans (up2_o hV143 (by decide)))))) ((up2_o hV155 (by decide)).trans ((up2_o hV159 (by decide)).trans ((up2_o hV147 (by decide)).trans ((up2_o hV145 (by decide)).trans (up2_o hV143 (by decide)))))) (fun _ => Or.inl (by omega)) (fun x h => FK.k4 (by omega) (by omega) (by omega) af177 (by omega) (fun hph => absurd hph (by omega)))
        have rp179 : MJ V155 Z b := MO.mj mo176 (by (first | exact om_c09d41618ed8 hgf | omega)) (by (first | exact om_82fa09255765 gd pq169 | omega)) id id Or.inr
        have wr180 : (V155 3 13).toInt = (V 3 13).toInt := congrArg Int32.toInt ((up2_o hV155 (by decide)).trans ((up2_o hV159 (by decide)).trans ((up2_o hV147 (by decide)).trans ((up2_o hV145 (by decide)).trans (up2_o hV143 (by decide))))))
        have wr181 : (V155 3 12).toInt = (V 3 12).toInt := congrArg Int32.toInt ((up2_o hV155 (by decide)).trans ((up2_o hV159 (by decide)).trans ((up2_o hV147 (by decide)).trans ((up2_o hV145 (by decide)).trans (up2_o hV143 (by decide))))))
        have wr182 : (V155 67 gf).toInt = ((V 67 gf)).toInt := (congrArg Int32.toInt ((up2_o hV155 (by decide)).trans ((up2_o hV159 (by decide)).trans ((up2_o hV147 (by decide)).trans ((up2_o hV145 (by decide)).trans (up2_o hV143 (by decide)))))))
        have wr183 : (V155 68 gf).toInt = 8 := (congrArg Int32.toInt ((up2_o hV155 (by decide)).trans ((up2_o hV159 (by decide)).trans ((up2_o hV147 (by decide)).trans ((up2_o hV145 (by decide)).trans (up2_s hV143)))))).trans (by decide)
        have wr184 : (V155 69 gf).toInt = ((V 69 gf)).toInt := (congrArg Int32.toInt ((up2_o hV155 (by decide)).trans ((up2_o hV159 (by decide)).trans ((up2_o hV147 (by decide)).trans ((up2_o hV145 (by decide)).trans (up2_o hV143 (by decide)))))))
        have wr185 : (V155 70 gf).toInt = ((V 70 gf)).toInt := (congrArg Int32.toInt ((up2_o hV155 (by decide)).trans ((up2_o hV159 (by decide)).trans ((up2_o hV147 (by decide)).trans ((up2_o hV145 (by decide)).trans (up2_o hV143 (by decide)))))))
        have wr186 : (V155 71 gf).toInt = ((V 71 gf)).toInt := (congrArg Int32.toInt ((up2_o hV155 (by decide)).trans ((up2_o hV159 (by decide)).trans ((up2_o hV147 (by decide)).trans ((up2_o hV145 (by decide)).trans (up2_o hV143 (by decide)))))))
        have wr187 : (V155 72 gf).toInt = ((V 72 gf)).toInt := (congrArg Int32.toInt ((up2_o hV155 (by decide)).trans ((up2_o hV159 (by decide)).trans ((up2_o hV147 (by decide)).trans ((up2_o hV145 (by decide)).trans (up2_o hV143 (by decide)))))))
        have wr188 : (V155 75 gf).toInt = ((V 75 gf)).toInt := (congrArg Int32.toInt ((up2_o hV155 (by decide)).trans ((up2_o hV159 (by decide)).trans ((up2_o hV147 (by decide)).trans ((up2_o hV145 (by decide)).trans (up2_o hV143 (by decide)))))))
        have wr189 : (V155 76 gf).toInt = 0 := (congrArg Int32.toInt ((up2_o hV155 (by decide)).trans ((up2_o hV159 (by decide)).trans ((up2_o hV147 (by decide)).trans (up2_s hV145))))).trans (by decide)
        have wr190 : (V155 77 gf).toInt = ((V 77 gf)).toInt := (congrArg Int32.toInt ((up2_o hV155 (by decide)).trans ((up2_o hV159 (by decide)).trans ((up2_o hV147 (by decide)).trans ((up2_o hV145 (by decide)).trans (up2_o hV143 (by decide)))))))
        have wr191 : (V155 84 gf).toInt = ((V 84 gf)).toInt := (congrArg Int32.toInt ((up2_o hV155 (by decide)).trans ((up2_o hV159 (by decide)).trans ((up2_o hV147 (by decide)).trans ((up2_o hV145 (by decide)).trans (up2_o hV143 (by decide)))))))
        have me192 : ME V V155 gf := (ME.up (ME.up (ME.up (ME.up (ME.up ME.rf hV143 (Or.inl ⟨by decide, by decide, Nat.le_refl _⟩)) hV145 (Or.inl ⟨by decide, by decide, Nat.le_refl _⟩)) hV147 (Or.inl ⟨by decide, by decide, Nat.le_refl _⟩)) hV159 (Or.inr (by omega))) hV155 (Or.inr (by omega)))
        have rl193 : RWl V155 gB gr t0 := RWl.mv hlr (fun i9 hi9 c9 h1 h2 => me192.2.1 c9 i9 h1 h2 (by omega)) (fun j9 hj9 => ((up2_o hV155 (by decide)).trans ((up2_o hV159 (by decide)).trans ((up2_o hV147 (by decide)).trans ((up2_o hV145 (by decide)).trans (up2_o hV143 (by decide))))))) (by rw [((up2_o hV155 (by decide)).trans ((up2_o hV159 (by decide)).trans ((up2_o hV147 (by decide)).trans ((up2_o hV145 (by decide)).trans (up2_o hV143 (by decide))))))]; exact Int.le_refl _) ((up2_o hV155 (by decide)).trans ((up2_o hV159 (by decide)).trans ((up2_o hV147 (by decide)).trans ((up2_o hV145 (by decide)).trans (up2_o hV143 (by decide))))))
        have fo8 : FRc V155 gB gr.length (Fsum lv o c sc at9 nd tg 0 v g 0 p) := by rw [gl9]; exact ⟨⟨by omega, by omega⟩, ⟨by omega, ⟨by omega, by omega, by omega⟩, ⟨by omega, by omega, by omega⟩, ⟨by omega, by omega, by omega⟩⟩, ⟨a0, by omega⟩, by omega, by omega, by omega, (((up2_o hV155 (by decide)).trans ((up2_o hV159 (by decide)).trans ((up2_o hV147 (by decide)).trans ((up2_o hV145 (by decide)).trans (up2_o hV143 (by decide)))))).trans q74), (((up2_o hV155 (by decide)).trans ((up2_o hV159 (by decide)).trans ((up2_o hV147 (by decide)).trans ((up2_o hV145 (by decide)).trans (up2_o hV143 (by decide)))))).trans q78), ((up2_o hV155 (by decide)).trans ((up2_o hV159 (by decide)).trans (up2_s hV147)))⟩
        have rl194 : RWl V155 gB (Fsum lv o c sc at9 nd tg 0 v g 0 p :: gr) tw9 := ⟨t0, tl7, fo8, fun _ _ => (by rw [gl9, ((up2_o hV155 (by decide)).trans ((up2_o hV159 (by decide)).trans ((up2_o hV147 (by decide)).trans ((up2_o hV145 (by decide)).trans (up2_o hV143 (by decide))))))]; exact hb8), plC.mv hp8 (fun j9 _ => ((up2_o hV155 (by decide)).trans ((up2_o hV159 (by decide)).trans ((up2_o hV147 (by decide)).trans ((up2_o hV145 (by decide)).trans (up2_o hV143 (by decide))))))), rl193⟩
        have rz9 : RW V155 gB (mU gm 0 6 1, 0, Fsum lv o c sc at9 nd tg 0 v g 0 p :: gr) := RW.sgn rwq (ESw.ag (show agr [(5, 9), (5, 10)] [68, 76, 79] V V155 from (agr.up (agr.up (agr.up (agr.up (agr.up agr.rf hV143 rfl) hV145 rfl) hV147 rfl) hV159 rfl) hV155 rfl)) (by decide)) (by (first | exact om_710535a98d88 t152 | omega)) (fun _ => (up2_s hV155)) (fun h9 => absurd h9 (by decide)) (show (V155 5 6).toInt = ((gr.length + 1 : Nat) : Int) from by (first | exact om_ccabef0d2974 gd gl9 pq169 | omega)) (show (V155 5 7).toInt = ((tw9 : Nat) : Int) from by rw [((up2_k hV155 (by decide)).trans ((up2_k hV159 (by decide)).trans ((up2_o hV147 (by decide)).trans ((up2_o hV145 (by decide)).trans (up2_o hV143 (by decide))))))]; exact rt9) rl194
        have rx195 : RW V155 gB (stM gB (gm, ga, gfr :: gr)) := by rw [hfe, st_14a (show bK gB c.toNat nd.toNat = 2 from by (first | exact om_93c6a791f561 kd9 f142 | omega))]; exact rz9
        refine W.know (fun kr1 kr2 => ?_)
        refine W.widen (k := zcc Z) (n := zss Z) (Nat.sub_le _ _) (Nat.sub_le _ _) ?_
        exact W.vret hx hb hr (fun t ht hW => ⟨⟨(V155, L, Z), rfl, ⟨hMV155, agV155, rfl, zoZ, rp179, rx195⟩, ⟨by rw [ht]; exact hP, va_K.moved hW.alike hK, hD⟩, by rw [ht]; exact kr1, by rw [ht]; exact kr2⟩, hS.F ht⟩) hS.2.2 dX5_callNeed_119
    · skip
      have jd9 : jnd gm o.toNat nd.toNat 0 = some x9 := jd_y je9
      have jv9 := jl_dy je9
      have jx9 : 0 ≤ x9 := by rw [← jv9.2]; exact jnn _
      refine lv_iload_n hx hb dX5_callNeed_38 rfl (lv_at hl 1 rfl) ?_
      refine lv_iconst (v := 2) hx hb dX5_callNeed_39 (by decide) ?_
      refine lv_icmp_ne (tgt := 67) hx hb dX5_callNeed_40 (by decide) (fun c196 => ?_) (fun c196 => ?_)
      · skip
        have f197 : ((V 60 (8 * (24 * b + (Int32.toNatClampNeg (V 71 gf))) + (Int32.toNatClampNeg (V 75 gf))))).toInt ≠ 2 := b_neq rfl (by decide) c196
        refine lv_iload_n hx hb dX5_callNeed_67 rfl (lv_at hl 1 rfl) ?_
        refine lv_iconst (v := 1) hx hb dX5_callNeed_68 (by decide) ?_
        refine lv_icmp_ne (tgt := 91) hx hb dX5_callNeed_69 (by decide) (fun c198 => ?_) (fun c198 => ?_)
        · skip
          have f199 : ((V 60 (8 * (24 * b + (Int32.toNatClampNeg (V 71 gf))) + (Int32.toNatClampNeg (V 75 gf))))).toInt ≠ 1 := b_neq rfl (by decide) c198
          refine lv_aload_n hx hb dX5_callNeed_91 rfl (lv_at hl 3 rfl) ?_
          refine lv_iconst (v := 1) hx hb dX5_callNeed_92 (by decide) ?_
          refine va_putN (D := D) (ci := 4) (v := .int 1) (ty := tyX4 1) (fs := (xfFrame V gf)) (C := RX4) (T := TX4) (N := 19) hx hb hg inX4 tyX4 tyX4_ok nmX4 hown hK hP hD hS (336 + gf) (xgFrame hgf) rfl 1 (by decide) (hnw.use 1190 n1190 rfl) (fun _ h9 => h9) rfl (tyX4_ok 1 (by decide)) rfl rfl (Nat.le_of_ble_eq_true rfl) dX5_callNeed_93 (fun H locs hP hD hS => ?_)
          obtain ⟨V200, hV200⟩ : ∃ z, z = up2 V 68 gf 1 := ⟨_, rfl⟩
          have ew201 : (xw ad kk V L Z).set (336 + gf) ((Z.fa gf), .inr (4, (xfFrame V gf).set 1 (.int 1))) = xw ad kk V200 L Z := by rw [hV200]; exact xpFrame_phase hgf
          have hP : va_P D vwCl (xw ad kk V200 L Z) H := by rw [← ew201]; exact hP
          have hD : va_D A (xw ad kk V200 L Z) := by rw [← ew201]; exact hD
          have hMV200 : rgd bX V200 := hMV.put hV200 (i_full _)
          have agV200 : agr [(5, 6), (5, 9), (5, 10), (5, 11), (5, 12)] [67, 68, 69, 70, 71, 72, 73, 74, 75, 76, 77, 78, 79, 80, 81, 82, 83, 84, 85] V V200 := agV.up hV200 rfl
          refine lv_aload_n hx hb dX5_callNeed_96 rfl (lv_at hl 2 rfl) ?_
          refine lv_iload_n hx hb dX5_callNeed_97 rfl (lv_at hl 0 rfl) ?_
          refine lv_aload_n hx hb dX5_callNeed_98 rfl (lv_at hl 3 rfl) ?_
          refine va_getN (D := D) (ci := 4) (v := .int (V200 72 gf)) (fs := (xfFrame V200 gf)) (C := RX4) (T := TX4) (N := 19) hx hb hg inX4 hown hK hP (336 + gf) (xgFrame hgf) rfl 5 (by decide) (hnw.use 1194 n1194 rfl) (fun _ h9 => h9) rfl dX5_callNeed_99 ?_
          refine g_top (v := (V 72 gf)) (up2_o hV200 (by decide)) ?_
          have r202 : 0 ≤ ((V 72 gf)).toInt ∧ ((V 72 gf)).toInt ≤ 39 := hMV 72 gf
          refine lv_aload_n hx hb dX5_callNeed_102 rfl (lv_at hl 3 rfl) ?_
          refine va_getN (D := D) (ci := 4) (v := .int (V200 77 gf)) (fs := (xfFrame V200 gf)) (C := RX4) (T := TX4) (N := 19) hx hb hg inX4 hown hK hP (336 + gf) (xgFrame hgf) rfl 10 (by decide) (hnw.use 1199 n1199 rfl) (fun _ h9 => h9) rfl dX5_callNeed_103 ?_
          refine g_top (v := (V 77 gf)) (up2_o hV200 (by decide)) ?_
          have r203 : 0 ≤ ((V 77 gf)).toInt ∧ ((V 77 gf)).toInt ≤ 19 := hMV 77 gf
          refine lv_aload_n hx hb dX5_callNeed_106 rfl (lv_at hl 3 rfl) ?_
          refine va_getN (D := D) (ci := 4) (v := .int (V200 78 gf)) (fs := (xfFrame V200 gf)) (C := RX4) (T := TX4) (N := 19) hx hb hg inX4 hown hK hP (336 + gf) (xgFrame hgf) rfl 11 (by decide) (hnw.use 1200 n1200 rfl) (fun _ h9 => h9) rfl dX5_callNeed_107 ?_
          refine g_top (v := (V 78 gf)) (up2_o hV200 (by decide)) ?_
          refine lv_aload_n hx hb dX5_callNeed_110 rfl (lv_at hl 3 rfl) ?_
          refine va_getN (D := D) (ci := 4) (v := .int (V200 69 gf)) (fs := (xfFrame V200 gf)) (C := RX4) (T := TX4) (N := 19) hx hb hg inX4 hown hK hP (336 + gf) (xgFrame hgf) rfl 2 (by decide) (hnw.use 1191 n1191 rfl) (fun _ h9 => h9) rfl dX5_callNeed_111 ?_
          refine g_top (v := (V 69 gf)) (up2_o hV200 (by decide)) ?_
          refine lv_iconst (v := 1) hx hb dX5_callNeed_114 (by decide) ?_
          refine lv_iadd hx hb dX5_callNeed_115 ?_
          have r204 := i_full (V 69 gf)
          refine lv_topi (fun z205 ez205 => ?_)
          have hz205 : Imp (-2147483648 ≤ ((V 69 gf)).toInt + 1 ∧ ((V 69 gf)).toInt + 1 ≤ 2147483647) (z205.toInt = ((V 69 gf)).toInt + 1) := Imp.mk (fun hp => i_add ez205 rfl (by decide) hp)
          have me206 : ME V V200 gf := (ME.up ME.rf hV200 (Or.inl ⟨by decide, by decide, Nat.le_refl _⟩))
          have pq207 : (V200 67 gf).toInt = ((V 67 gf)).toInt := congrArg Int32.toInt (up2_o hV200 (by decide))
          have pq208 : (V200 68 gf).toInt = 1 := (congrArg Int32.toInt (up2_s hV200)).trans (by decide)
          have pq209 : (V200 70 gf).toInt = ((V 70 gf)).toInt := congrArg Int32.toInt (up2_o hV200 (by decide))
          have pq210 : (V200 71 gf).toInt = ((V 71 gf)).toInt := congrArg Int32.toInt (up2_o hV200 (by decide))
          have pq211 : (V200 75 gf).toInt = ((V 75 gf)).toInt := congrArg Int32.toInt (up2_o hV200 (by decide))
          have pq212 : (V200 76 gf).toInt = ((V 76 gf)).toInt := congrArg Int32.toInt (up2_o hV200 (by decide))
          have pq213 : (V200 80 gf).toInt = ((V 80 gf)).toInt := congrArg Int32.toInt (up2_o hV200 (by decide))
          have pq214 : (V200 84 gf).toInt = ((V 84 gf)).toInt := congrArg Int32.toInt (up2_o hV200 (by decide))
          have pq215 : (V200 5 6).toInt = ((V 5 6)).toInt := congrArg Int32.toInt (up2_o hV200 (by decide))
          have pq216 : (V200 5 8).toInt = ((V 5 8)).toInt := congrArg Int32.toInt (up2_o hV200 (by decide))
          have pq217 : (V200 5 9).toInt = ((V 5 9)).toInt := congrArg Int32.toInt (up2_o hV200 (by decide))
          have pq218 : (V200 3 13).toInt = ((V 3 13)).toInt := congrArg Int32.toInt (up2_o hV200 (by decide))
          have pq219 : (V200 43 (5 * b + 2)).toInt = ((V 43 (5 * b + 2))).toInt := congrArg Int32.toInt (up2_o hV200 (by decide))
          have pq220 : (V200 42 b).toInt = ((V 42 b)).toInt := congrArg Int32.toInt (up2_o hV200 (by decide))
          have pq221 : (V200 41 b).toInt = ((V 41 b)).toInt := congrArg Int32.toInt (up2_o hV200 (by decide))
          have ep224 : V200 84 gf = (V 84 gf) := (up2_o hV200 (by decide))
          have af223 : (V200 42 b).toInt ≤ (V200 84 gf).toInt ∨ (bdp V200 b (V200 84 gf).toInt.toNat).1 = true := by rw [ep224, me206.1.bd, me206.1 42 b (by decide) (by decide)]; exact ft
          have mo222 : MO V200 Z b gf True True True := MO.ch mo me206 (up2_o hV200 (by decide)) (up2_o hV200 (by decide)) (fun _ => Or.inl (by omega)) (fun x h => FK.k4 (by first | omega | ((try (have i_hz205 := Imp.go hz205 (by omega))); omega)) (by first | omega | ((try (have i_hz205 := Imp.go hz205 (by omega))); omega)) (by first | omega | ((try (have i_hz205 := Imp.go hz205 (by omega))); omega)) af223 (by first | omega | ((try (have i_hz205 := Imp.go hz205 (by omega))); omega)) (fun hph => absurd hph (by omega)))
          have mt225 : MT V200 Z b := MO.mt mo222 (by (first | exact om_c09d41618ed8 hgf | omega)) (by (first | exact om_82fa09255765 gd pq215 | omega))
          refine W.know (fun k227 k228 => ?_)
          obtain ⟨Hk226, hHk226⟩ : ∃ z, z = H := ⟨_, rfl⟩
          have k227 : Hk226.size ≤ s.heap.size + (zcc Z - zcc Z) := by rw [hHk226]; exact k227
          have k228 : tot Hk226 ≤ tot s.heap + (zss Z - zss Z) := by rw [hHk226]; exact k228
          refine gZ_void (gA_runV (As := [.int z20, .int (V 72 gf), .int (V 77 gf), .int (V 78 gf), .int z205]) (rest := []) (ci := 5) (q0 := 5) hx hb hml hown hg hP hD hK hS hA hnw hgk (x_pushCall9 l D ks H.size ad kk V200 L Z z20 (V 72 gf) (V 77 gf) (V 78 gf) z205 (b) hMV200 (by first | exact om_13ba01c174fe r202.1 r202.2 | first | omega | ((try (have i_hz205 := Imp.go hz205 (by omega))); omega)) (by first | exact om_0916ac166aa8 r77.1 r77.2 | first | omega | ((try (have i_hz205 := Imp.go hz205 (by omega))); omega)) (show b < 2 from by first | exact om_f940a4667dd6 hb2 | first | omega | ((try (have i_hz205 := Imp.go hz205 (by omega))); omega)) mt225) w1454 w1455 w1456 w171 w1457 rfl xgMachine hdV_yX5_pushCall ⟨Nat.le_of_ble_eq_true rfl, Nat.le_of_ble_eq_true rfl⟩ rfl hl.1 rfl (Nat.le_of_ble_eq_true rfl) dX5_callNeed_116 ⟨z1 zoZ.1, z1 zoZ.2.1⟩) hD hS hA (fun u230 H locs w231 hP hD hK hS y232 y233 => ?_)
          obtain ⟨V234, L235, Z236⟩ := u230
          obtain ⟨hMV234, ajV234, axL235, zlZ236, t238, t239⟩ := w231
          have axL235 : L = L235 := Eq.symm axL235
          subst axL235
          have hP : va_P D vwCl (xw ad kk V234 L Z236) H := hP
          have hD : va_D A (xw ad kk V234 L Z236) := hD
          have hK : va_K D vwCl (xty kk Z236) s := hK
          have hMV234 : rgd bX V234 := hMV234
          have ajV234 : agr [(5, 6), (5, 9)] [67, 68, 69, 70, 71, 72, 73, 74, 75, 76, 77, 78, 79, 80, 81, 82, 83, 84, 85] V200 V234 := ajV234
          have agV234 : agr [(5, 6), (5, 9), (5, 10), (5, 11), (5, 12)] [67, 68, 69, 70, 71, 72, 73, 74, 75, 76, 77, 78, 79, 80, 81, 82, 83, 84, 85] V V234 := agV200.tr ajV234 (by decide) (by decide)
          have zlZ236 : ZL Z Z236 := zlZ236
          have zoZ236 : ZL Z Z236 := ZL.tr zoZ zlZ236
          have ziZ236 := zlZ236.1
          have zjZ236 := zlZ236.2.1
          have zkZ236 := zlZ236.2.2.1
          have zmZ236 := zoZ236.1
          have znZ236 := zoZ236.2.1
          have zpZ_Z236 := zoZ.1
          have zqZ_Z236 := zoZ.2.1
          have y232 : H.size ≤ Hk226.size + (zcc Z - zcc Z236) := by rw [hHk226]; exact y232
          have y233 : tot H ≤ tot Hk226 + (zss Z - zss Z236) := by rw [hHk226]; exact y233
          refine W.tight (k := zcc Z - zcc Z236) (n := zss Z - zss Z236) (by first | exact tg9 y232 k227 zlZ236.1 zoZ.1 | omega) (by first | exact tg9 y233 k228 zlZ236.2.1 zoZ.2.1 | omega) ?_
          have hl : lv_has ls 4 [(3, .int z20), (2, .int (V 60 (8 * (24 * b + (Int32.toNatClampNeg (V 71 gf))) + (Int32.toNatClampNeg (V 75 gf))))), (0, .ref (ad 5)), (1, .ref (Z236.fa gf))] := by rw [zlZ236.2.2.2.2 gf hgf]; exact hl
          have t238 : MJ V234 Z236 b := t238
          have t239 : Imp ((V200 5 6).toInt < 400) (PCa V200 V234 ((V200 5 6).toInt.toNat) z20 (V 72 gf) (V 77 gf) (V 78 gf) z205) := t239
          have gx9 := (GOs.sf (show GOs gB (mU gm 0 6 0, ga, Fcall0 (lv + 1) x9 (gm 1 x9.toNat) sc tg g :: Fwait lv o c sc 0 0 at9 v p :: gr) from by have h9 := GOs.nx go9; rw [hfe, st_14j (show ¬ bK gB c.toNat nd.toNat = 2 from by omega) jd9] at h9; exact h9)).2.2.2.2 _ _ rfl
          have gy9 : x9 < gm 0 2 := by have h9 : x9 < (mU gm 0 6 0) 0 2 := gx9 jx9; rw [mU_o _ _ (by omega)] at h9; exact h9
          have pw := Imp.go t239 (by (first | exact om_f2444a3e49ba gd gl9 sl9 pq215 | omega))
          have pi9 : (V200 5 6).toInt.toNat = gr.length + 1 := by (first | exact om_e14d89dbab7d gd gl9 pq215 | omega)
          rw [pi9] at pw
          obtain ⟨⟨pd1, pd2, pke⟩, ⟨pk1, pk2⟩, p69, p70, p72, p73, p74, pc1, pc2, pc3⟩ := pw
          have wr240 := congrArg Int32.toInt p69
          have wr241 := congrArg Int32.toInt p70
          have wr242 := congrArg Int32.toInt p72
          have wr243 := congrArg Int32.toInt p73
          have lz9 : z205.toInt = (V 69 gf).toInt + 1 := i_add ez205 rfl (by decide) (by omega)
          have wr244 : (V234 3 13).toInt = (V 3 13).toInt := congrArg Int32.toInt ((ajV234 3 13 rfl).trans (up2_o hV200 (by decide)))
          have wr245 : (V234 3 12).toInt = (V 3 12).toInt := congrArg Int32.toInt ((ajV234 3 12 rfl).trans (up2_o hV200 (by decide)))
          have wr246 : (V234 67 gf).toInt = ((V 67 gf)).toInt := (congrArg Int32.toInt ((pke gf (by omega) 67 (by decide) (by decide)).trans (up2_o hV200 (by decide))))
          have wr247 : (V234 68 gf).toInt = 1 := (congrArg Int32.toInt ((pke gf (by omega) 68 (by decide) (by decide)).trans (up2_s hV200))).trans (by decide)
          have wr248 : (V234 69 gf).toInt = ((V 69 gf)).toInt := (congrArg Int32.toInt ((pke gf (by omega) 69 (by decide) (by decide)).trans (up2_o hV200 (by decide))))
          have wr249 : (V234 70 gf).toInt = ((V 70 gf)).toInt := (congrArg Int32.toInt ((pke gf (by omega) 70 (by decide) (by decide)).trans (up2_o hV200 (by decide))))
          have wr250 : (V234 71 gf).toInt = ((V 71 gf)).toInt := (congrArg Int32.toInt ((pke gf (by omega) 71 (by decide) (by decide)).trans (up2_o hV200 (by decide))))
          have wr251 : (V234 72 gf).toInt = ((V 72 gf)).toInt := (congrArg Int32.toInt ((pke gf (by omega) 72 (by decide) (by decide)).trans (up2_o hV200 (by decide))))
          have wr252 : (V234 84 gf).toInt = ((V 84 gf)).toInt := (congrArg Int32.toInt ((pke gf (by omega) 84 (by decide) (by decide)).trans (up2_o hV200 (by decide))))
          have me253 : ME V V200 gf := (ME.up ME.rf hV200 (Or.inl ⟨by decide, by decide, Nat.le_refl _⟩))
          have rl254 : RWl V234 gB gr t0 := RWl.mv hlr (fun i9 hi9 c9 h1 h2 => ((pke i9 (by omega) c9 h1 h2)).trans (me253.2.1 c9 i9 h1 h2 (by omega))) (fun j9 hj9 => ((ajV234 39 j9 rfl).trans (up2_o hV200 (by decide)))) (by rw [((ajV234 3 13 rfl).trans (up2_o hV200 (by decide)))]; exact Int.le_refl _) ((ajV234 3 12 rfl).trans (up2_o hV200 (by decide)))
          have fo8 : FRc V234 gB gr.length (Fwait lv o c sc 0 0 at9 v p) := by rw [gl9]; exact ⟨⟨by omega, by omega⟩, ⟨by omega, ⟨by omega, by omega, by omega⟩, ⟨by omega, by omega, by omega⟩, ⟨by omega, by omega, by omega⟩⟩, (fun h9 => absurd h9 (by decide)), ⟨a0, by omega⟩, ((pke gf (by omega) 74 (by decide) (by decide)).trans ((up2_o hV200 (by decide)).trans q74))⟩
          have rl255 : RWl V234 gB (Fwait lv o c sc 0 0 at9 v p :: gr) tw9 := ⟨t0, tl7, fo8, fun _ _ => (by rw [gl9, ((pke gf (by omega) 85 (by decide) (by decide)).trans (up2_o hV200 (by decide)))]; exact hb8), plC.mv hp8 (fun j9 _ => (show agr [(5, 6), (5, 9)] [67, 68, 69, 70, 71, 72, 73, 74, 75, 76, 77, 78, 79, 80, 81, 82, 83, 84, 85] V V234 from (agr.tr (agr.up agr.rf hV200 rfl) ajV234 (by decide) (by decide))) 39 j9 rfl), rl254⟩
          have b13 : (V200 3 13).toInt = (V 3 13).toInt := congrArg Int32.toInt ((up2_o hV200 (by decide)))
          have n249 := bc.2.2.2.1.2.1
          have c71 : (0 ≤ x9 → (V234 71 (gr.length + 1)).toInt = (gm 1 x9.toNat)) ∧ (0 ≤ (V234 71 (gr.length + 1)).toInt ∧ (V234 71 (gr.length + 1)).toInt < ((nC gB : Nat) : Int)) := by
            by_cases h9 : 0 ≤ x9
            · have h8 := pc1 ⟨by omega, by omega⟩
              have h7 := rn.2.1 x9.toNat (by omega)
              have h6 : Int32.toNatClampNeg z20 = x9.toNat := by have h5 := i_clamp (x := z20) rfl (by omega); omega
              rw [h6, (up2_o hV200 (by decide))] at h8
              have h5 := congrArg Int32.toInt h8
              have h4 := h7.1.1
              have h3 := h7.2.2.1
              exact ⟨fun _ => by omega, by omega, by omega⟩
            · have h8 := pc2 (fun h7 => h9 (by omega))
              exact ⟨fun h7 => absurd h7 h9, by omega, by omega⟩
          have ft9 : FRc V234 gB (gr.length + 1) (Fcall0 (lv + 1) x9 (gm 1 x9.toNat) sc tg g) := ⟨⟨pk1, pk2⟩, by omega, by omega, fun h9 => ⟨by omega, c71.1 h9⟩, c71.2, ⟨by omega, by omega, by omega⟩, ⟨by omega, by omega, by omega⟩, p74.trans q78⟩
          have rz9 : RW V234 gB (mU gm 0 6 0, ga, Fcall0 (lv + 1) x9 (gm 1 x9.toNat) sc tg g :: Fwait lv o c sc 0 0 at9 v p :: gr) := RW.sgn rwq (ESw.ag (show agr [(5, 6), (5, 9)] [67, 68, 69, 70, 71, 72, 73, 74, 75, 76, 77, 78, 79, 80, 81, 82, 83, 84, 85] V V234 from (agr.tr (agr.up agr.rf hV200 rfl) ajV234 (by decide) (by decide))) (by decide)) pd2 (fun h9 => absurd h9 (by decide)) (fun h9 => absurd h9 (by decide)) (show (V234 5 6).toInt = ((gr.length + 1 + 1 : Nat) : Int) from by omega) (show (V234 5 7).toInt = ((tw9 : Nat) : Int) from by rw [((ajV234 5 7 rfl).trans (up2_o hV200 (by decide)))]; exact rt9) (RWl.push rl255 ft9 rfl (np9 rfl))
          have rx256 : RW V234 gB (stM gB (gm, ga, gfr :: gr)) := by rw [hfe, st_14j (show ¬ bK gB c.toNat nd.toNat = 2 from by omega) jd9]; exact rz9
          refine W.know (fun kr1 kr2 => ?_)
          refine W.widen (k := zcc Z) (n := zss Z) (Nat.sub_le _ _) (Nat.sub_le _ _) ?_
          exact W.vret hx hb hr (fun t ht hW => ⟨⟨(V234, L, Z236), rfl, ⟨hMV234, agV234, rfl, zoZ236, t238, rx256⟩, ⟨by rw [ht]; exact hP, va_K.moved hW.alike hK, hD⟩, by rw [ht]; exact kr1, by rw [ht]; exact kr2⟩, hS.F ht⟩) hS.2.2 dX5_callNeed_119
        · skip
          have f257 : ((V 60 (8 * (24 * b + (Int32.toNatClampNeg (V 71 gf))) + (Int32.toNatClampNeg (V 75 gf))))).toInt = 1 := b_eq rfl (by decide) c198
          refine lv_iload_n hx hb dX5_callNeed_72 rfl (lv_at hl 0 rfl) ?_
          refine lv_iconst (v := (-1)) hx hb dX5_callNeed_73 (by decide) ?_
          refine lv_icmp_ne (tgt := 91) hx hb dX5_callNeed_74 (by decide) (fun c258 => ?_) (fun c258 => ?_)
          · skip
            have f259 : z20.toInt ≠ (-1) := b_neq rfl (by decide) c258
            refine lv_aload_n hx hb dX5_callNeed_91 rfl (lv_at hl 3 rfl) ?_
            refine lv_iconst (v := 1) hx hb dX5_callNeed_92 (by decide) ?_
            refine va_putN (D := D) (ci := 4) (v := .int 1) (ty := tyX4 1) (fs := (xfFrame V gf)) (C := RX4) (T := TX4) (N := 19) hx hb hg inX4 tyX4 tyX4_ok nmX4 hown hK hP hD hS (336 + gf) (xgFrame hgf) rfl 1 (by decide) (hnw.use 1190 n1190 rfl) (fun _ h9 => h9) rfl (tyX4_ok 1 (by decide)) rfl rfl (Nat.le_of_ble_eq_true rfl) dX5_callNeed_93 (fun H locs hP hD hS => ?_)
            obtain ⟨V260, hV260⟩ : ∃ z, z = up2 V 68 gf 1 := ⟨_, rfl⟩
            have ew261 : (xw ad kk V L Z).set (336 + gf) ((Z.fa gf), .inr (4, (xfFrame V gf).set 1 (.int 1))) = xw ad kk V260 L Z := by rw [hV260]; exact xpFrame_phase hgf
            have hP : va_P D vwCl (xw ad kk V260 L Z) H := by rw [← ew261]; exact hP
            have hD : va_D A (xw ad kk V260 L Z) := by rw [← ew261]; exact hD
            have hMV260 : rgd bX V260 := hMV.put hV260 (i_full _)
            have agV260 : agr [(5, 6), (5, 9), (5, 10), (5, 11), (5, 12)] [67, 68, 69, 70, 71, 72, 73, 74, 75, 76, 77, 78, 79, 80, 81, 82, 83, 84, 85] V V260 := agV.up hV260 rfl
            refine lv_aload_n hx hb dX5_callNeed_96 rfl (lv_at hl 2 rfl) ?_
            refine lv_iload_n hx hb dX5_callNeed_97 rfl (lv_at hl 0 rfl) ?_
            refine lv_aload_n hx hb dX5_callNeed_98 rfl (lv_at hl 3 rfl) ?_
            refine va_getN (D := D) (ci := 4) (v := .int (V260 72 gf)) (fs := (xfFrame V260 gf)) (C := RX4) (T := TX4) (N := 19) hx hb hg inX4 hown hK hP (336 + gf) (xgFrame hgf) rfl 5 (by decide) (hnw.use 1194 n1194 rfl) (fun _ h9 => h9) rfl dX5_callNeed_99 ?_
            refine g_top (v := (V 72 gf)) (up2_o hV260 (by decide)) ?_
            have r262 : 0 ≤ ((V 72 gf)).toInt ∧ ((V 72 gf)).toInt ≤ 39 := hMV 72 gf
            refine lv_aload_n hx hb dX5_callNeed_102 rfl (lv_at hl 3 rfl) ?_
            refine va_getN (D := D) (ci := 4) (v := .int (V260 77 gf)) (fs := (xfFrame V260 gf)) (C := RX4) (T := TX4) (N := 19) hx hb hg inX4 hown hK hP (336 + gf) (xgFrame hgf) rfl 10 (by decide) (hnw.use 1199 n1199 rfl) (fun _ h9 => h9) rfl dX5_callNeed_103 ?_
            refine g_top (v := (V 77 gf)) (up2_o hV260 (by decide)) ?_
            have r263 : 0 ≤ ((V 77 gf)).toInt ∧ ((V 77 gf)).toInt ≤ 19 := hMV 77 gf
            refine lv_aload_n hx hb dX5_callNeed_106 rfl (lv_at hl 3 rfl) ?_
            refine va_getN (D := D) (ci := 4) (v := .int (V260 78 gf)) (fs := (xfFrame V260 gf)) (C := RX4) (T := TX4) (N := 19) hx hb hg inX4 hown hK hP (336 + gf) (xgFrame hgf) rfl 11 (by decide) (hnw.use 1200 n1200 rfl) (fun _ h9 => h9) rfl dX5_callNeed_107 ?_
            refine g_top (v := (V 78 gf)) (up2_o hV260 (by decide)) ?_
            refine lv_aload_n hx hb dX5_callNeed_110 rfl (lv_at hl 3 rfl) ?_
            refine va_getN (D := D) (ci := 4) (v := .int (V260 69 gf)) (fs := (xfFrame V260 gf)) (C := RX4) (T := TX4) (N := 19) hx hb hg inX4 hown hK hP (336 + gf) (xgFrame hgf) rfl 2 (by decide) (hnw.use 1191 n1191 rfl) (fun _ h9 => h9) rfl dX5_callNeed_111 ?_
            refine g_top (v := (V 69 gf)) (up2_o hV260 (by decide)) ?_
            refine lv_iconst (v := 1) hx hb dX5_callNeed_114 (by decide) ?_
            refine lv_iadd hx hb dX5_callNeed_115 ?_
            have r264 := i_full (V 69 gf)
            refine lv_topi (fun z265 ez265 => ?_)
            have hz265 : Imp (-2147483648 ≤ ((V 69 gf)).toInt + 1 ∧ ((V 69 gf)).toInt + 1 ≤ 2147483647) (z265.toInt = ((V 69 gf)).toInt + 1) := Imp.mk (fun hp => i_add ez265 rfl (by decide) hp)
            have me266 : ME V V260 gf := (ME.up ME.rf hV260 (Or.inl ⟨by decide, by decide, Nat.le_refl _⟩))
            have pq267 : (V260 67 gf).toInt = ((V 67 gf)).toInt := congrArg Int32.toInt (up2_o hV260 (by decide))
            have pq268 : (V260 68 gf).toInt = 1 := (congrArg Int32.toInt (up2_s hV260)).trans (by decide)
            have pq269 : (V260 70 gf).toInt = ((V 70 gf)).toInt := congrArg Int32.toInt (up2_o hV260 (by decide))
            have pq270 : (V260 71 gf).toInt = ((V 71 gf)).toInt := congrArg Int32.toInt (up2_o hV260 (by decide))
            have pq271 : (V260 75 gf).toInt = ((V 75 gf)).toInt := congrArg Int32.toInt (up2_o hV260 (by decide))
            have pq272 : (V260 76 gf).toInt = ((V 76 gf)).toInt := congrArg Int32.toInt (up2_o hV260 (by decide))
            have pq273 : (V260 80 gf).toInt = ((V 80 gf)).toInt := congrArg Int32.toInt (up2_o hV260 (by decide))
            have pq274 : (V260 84 gf).toInt = ((V 84 gf)).toInt := congrArg Int32.toInt (up2_o hV260 (by decide))
            have pq275 : (V260 5 6).toInt = ((V 5 6)).toInt := congrArg Int32.toInt (up2_o hV260 (by decide))
            have pq276 : (V260 5 8).toInt = ((V 5 8)).toInt := congrArg Int32.toInt (up2_o hV260 (by decide))
            have pq277 : (V260 5 9).toInt = ((V 5 9)).toInt := congrArg Int32.toInt (up2_o hV260 (by decide))
            have pq278 : (V260 3 13).toInt = ((V 3 13)).toInt := congrArg Int32.toInt (up2_o hV260 (by decide))
            have pq279 : (V260 43 (5 * b + 2)).toInt = ((V 43 (5 * b + 2))).toInt := congrArg Int32.toInt (up2_o hV260 (by decide))
            have pq280 : (V260 42 b).toInt = ((V 42 b)).toInt := congrArg Int32.toInt (up2_o hV260 (by decide))
            have pq281 : (V260 41 b).toInt = ((V 41 b)).toInt := congrArg Int32.toInt (up2_o hV260 (by decide))
            have ep284 : V260 84 gf = (V 84 gf) := (up2_o hV260 (by decide))
            have af283 : (V260 42 b).toInt ≤ (V260 84 gf).toInt ∨ (bdp V260 b (V260 84 gf).toInt.toNat).1 = true := by rw [ep284, me266.1.bd, me266.1 42 b (by decide) (by decide)]; exact ft
            have mo282 : MO V260 Z b gf True True True := MO.ch mo me266 (up2_o hV260 (by decide)) (up2_o hV260 (by decide)) (fun _ => Or.inl (by omega)) (fun x h => FK.k4 (by first | omega | ((try (have i_hz265 := Imp.go hz265 (by omega))); omega)) (by first | omega | ((try (have i_hz265 := Imp.go hz265 (by omega))); omega)) (by first | omega | ((try (have i_hz265 := Imp.go hz265 (by omega))); omega)) af283 (by first | omega | ((try (have i_hz265 := Imp.go hz265 (by omega))); omega)) (fun hph => absurd hph (by omega)))
            have mt285 : MT V260 Z b := MO.mt mo282 (by (first | exact om_c09d41618ed8 hgf | omega)) (by (first | exact om_82fa09255765 gd pq275 | omega))
            refine W.know (fun k287 k288 => ?_)
            obtain ⟨Hk286, hHk286⟩ : ∃ z, z = H := ⟨_, rfl⟩
            have k287 : Hk286.size ≤ s.heap.size + (zcc Z - zcc Z) := by rw [hHk286]; exact k287
            have k288 : tot Hk286 ≤ tot s.heap + (zss Z - zss Z) := by rw [hHk286]; exact k288
            refine gZ_void (gA_runV (As := [.int z20, .int (V 72 gf), .int (V 77 gf), .int (V 78 gf), .int z265]) (rest := []) (ci := 5) (q0 := 5) hx hb hml hown hg hP hD hK hS hA hnw hgk (x_pushCall9 l D ks H.size ad kk V260 L Z z20 (V 72 gf) (V 77 gf) (V 78 gf) z265 (b) hMV260 (by first | exact om_13ba01c174fe r262.1 r262.2 | first | omega | ((try (have i_hz265 := Imp.go hz265 (by omega))); omega)) (by first | exact om_0916ac166aa8 r77.1 r77.2 | first | omega | ((try (have i_hz265 := Imp.go hz265 (by omega))); omega)) (show b < 2 from by first | exact om_f940a4667dd6 hb2 | first | omega | ((try (have i_hz265 := Imp.go hz265 (by omega))); omega)) mt285) w1454 w1455 w1456 w171 w1457 rfl xgMachine hdV_yX5_pushCall ⟨Nat.le_of_ble_eq_true rfl, Nat.le_of_ble_eq_true rfl⟩ rfl hl.1 rfl (Nat.le_of_ble_eq_true rfl) dX5_callNeed_116 ⟨z1 zoZ.1, z1 zoZ.2.1⟩) hD hS hA (fun u290 H locs w291 hP hD hK hS y292 y293 => ?_)
            obtain ⟨V294, L295, Z296⟩ := u290
            obtain ⟨hMV294, ajV294, axL295, zlZ296, t298, t299⟩ := w291
            have axL295 : L = L295 := Eq.symm axL295
            subst axL295
            have hP : va_P D vwCl (xw ad kk V294 L Z296) H := hP
            have hD : va_D A (xw ad kk V294 L Z296) := hD
            have hK : va_K D vwCl (xty kk Z296) s := hK
            have hMV294 : rgd bX V294 := hMV294
            have ajV294 : agr [(5, 6), (5, 9)] [67, 68, 69, 70, 71, 72, 73, 74, 75, 76, 77, 78, 79, 80, 81, 82, 83, 84, 85] V260 V294 := ajV294
            have agV294 : agr [(5, 6), (5, 9), (5, 10), (5, 11), (5, 12)] [67, 68, 69, 70, 71, 72, 73, 74, 75, 76, 77, 78, 79, 80, 81, 82, 83, 84, 85] V V294 := agV260.tr ajV294 (by decide) (by decide)
            have zlZ296 : ZL Z Z296 := zlZ296
            have zoZ296 : ZL Z Z296 := ZL.tr zoZ zlZ296
            have ziZ296 := zlZ296.1
            have zjZ296 := zlZ296.2.1
            have zkZ296 := zlZ296.2.2.1
            have zmZ296 := zoZ296.1
            have znZ296 := zoZ296.2.1
            have zpZ_Z296 := zoZ.1
            have zqZ_Z296 := zoZ.2.1
            have y292 : H.size ≤ Hk286.size + (zcc Z - zcc Z296) := by rw [hHk286]; exact y292
            have y293 : tot H ≤ tot Hk286 + (zss Z - zss Z296) := by rw [hHk286]; exact y293
            refine W.tight (k := zcc Z - zcc Z296) (n := zss Z - zss Z296) (by first | exact tg9 y292 k287 zlZ296.1 zoZ.1 | omega) (by first | exact tg9 y293 k288 zlZ296.2.1 zoZ.2.1 | omega) ?_
            have hl : lv_has ls 4 [(3, .int z20), (2, .int (V 60 (8 * (24 * b + (Int32.toNatClampNeg (V 71 gf))) + (Int32.toNatClampNeg (V 75 gf))))), (0, .ref (ad 5)), (1, .ref (Z296.fa gf))] := by rw [zlZ296.2.2.2.2 gf hgf]; exact hl
            have t298 : MJ V294 Z296 b := t298
            have t299 : Imp ((V260 5 6).toInt < 400) (PCa V260 V294 ((V260 5 6).toInt.toNat) z20 (V 72 gf) (V 77 gf) (V 78 gf) z265) := t299
            have gx9 := (GOs.sf (show GOs gB (mU gm 0 6 0, ga, Fcall0 (lv + 1) x9 (gm 1 x9.toNat) sc tg g :: Fwait lv o c sc 0 0 at9 v p :: gr) from by have h9 := GOs.nx go9; rw [hfe, st_14j (show ¬ bK gB c.toNat nd.toNat = 2 from by (first | exact om_ae9e2a5c6706 kd9 f257 | omega)) jd9] at h9; exact h9)).2.2.2.2 _ _ rfl
            have gy9 : x9 < gm 0 2 := by have h9 : x9 < (mU gm 0 6 0) 0 2 := gx9 jx9; rw [mU_o _ _ (by omega)] at h9; exact h9
            have pw := Imp.go t299 (by (first | exact om_f2444a3e49ba gd gl9 sl9 pq275 | omega))
            have pi9 : (V260 5 6).toInt.toNat = gr.length + 1 := by (first | exact om_e14d89dbab7d gd gl9 pq275 | omega)
            rw [pi9] at pw
            obtain ⟨⟨pd1, pd2, pke⟩, ⟨pk1, pk2⟩, p69, p70, p72, p73, p74, pc1, pc2, pc3⟩ := pw
            have wr300 := congrArg Int32.toInt p69
            have wr301 := congrArg Int32.toInt p70
            have wr302 := congrArg Int32.toInt p72
            have wr303 := congrArg Int32.toInt p73
            have lz9 : z265.toInt = (V 69 gf).toInt + 1 := i_add ez265 rfl (by decide) (by omega)
            have wr304 : (V294 3 13).toInt = (V 3 13).toInt := congrArg Int32.toInt ((ajV294 3 13 rfl).trans (up2_o hV260 (by decide)))
            have wr305 : (V294 3 12).toInt = (V 3 12).toInt := congrArg Int32.toInt ((ajV294 3 12 rfl).trans (up2_o hV260 (by decide)))
            have wr306 : (V294 67 gf).toInt = ((V 67 gf)).toInt := (congrArg Int32.toInt ((pke gf (by omega) 67 (by decide) (by decide)).trans (up2_o hV260 (by decide))))
            have wr307 : (V294 68 gf).toInt = 1 := (congrArg Int32.toInt ((pke gf (by omega) 68 (by decide) (by decide)).trans (up2_s hV260))).trans (by decide)
            have wr308 : (V294 69 gf).toInt = ((V 69 gf)).toInt := (congrArg Int32.toInt ((pke gf (by omega) 69 (by decide) (by decide)).trans (up2_o hV260 (by decide))))
            have wr309 : (V294 70 gf).toInt = ((V 70 gf)).toInt := (congrArg Int32.toInt ((pke gf (by omega) 70 (by decide) (by decide)).trans (up2_o hV260 (by decide))))
            have wr310 : (V294 71 gf).toInt = ((V 71 gf)).toInt := (congrArg Int32.toInt ((pke gf (by omega) 71 (by decide) (by decide)).trans (up2_o hV260 (by decide))))
            have wr311 : (V294 72 gf).toInt = ((V 72 gf)).toInt := (congrArg Int32.toInt ((pke gf (by omega) 72 (by decide) (by decide)).trans (up2_o hV260 (by decide))))
            have wr312 : (V294 84 gf).toInt = ((V 84 gf)).toInt := (congrArg Int32.toInt ((pke gf (by omega) 84 (by decide) (by decide)).trans (up2_o hV260 (by decide))))
            have me313 : ME V V260 gf := (ME.up ME.rf hV260 (Or.inl ⟨by decide, by decide, Nat.le_refl _⟩))
            have rl314 : RWl V294 gB gr t0 := RWl.mv hlr (fun i9 hi9 c9 h1 h2 => ((pke i9 (by omega) c9 h1 h2)).trans (me313.2.1 c9 i9 h1 h2 (by omega))) (fun j9 hj9 => ((ajV294 39 j9 rfl).trans (up2_o hV260 (by decide)))) (by rw [((ajV294 3 13 rfl).trans (up2_o hV260 (by decide)))]; exact Int.le_refl _) ((ajV294 3 12 rfl).trans (up2_o hV260 (by decide)))
            have fo8 : FRc V294 gB gr.length (Fwait lv o c sc 0 0 at9 v p) := by rw [gl9]; exact ⟨⟨by omega, by omega⟩, ⟨by omega, ⟨by omega, by omega, by omega⟩, ⟨by omega, by omega, by omega⟩, ⟨by omega, by omega, by omega⟩⟩, (fun h9 => absurd h9 (by decide)), ⟨a0, by omega⟩, ((pke gf (by omega) 74 (by decide) (by decide)).trans ((up2_o hV260 (by decide)).trans q74))⟩
            have rl315 : RWl V294 gB (Fwait lv o c sc 0 0 at9 v p :: gr) tw9 := ⟨t0, tl7, fo8, fun _ _ => (by rw [gl9, ((pke gf (by omega) 85 (by decide) (by decide)).trans (up2_o hV260 (by decide)))]; exact hb8), plC.mv hp8 (fun j9 _ => (show agr [(5, 6), (5, 9)] [67, 68, 69, 70, 71, 72, 73, 74, 75, 76, 77, 78, 79, 80, 81, 82, 83, 84, 85] V V294 from (agr.tr (agr.up agr.rf hV260 rfl) ajV294 (by decide) (by decide))) 39 j9 rfl), rl314⟩
            have b13 : (V260 3 13).toInt = (V 3 13).toInt := congrArg Int32.toInt ((up2_o hV260 (by decide)))
            have n249 := bc.2.2.2.1.2.1
            have c71 : (0 ≤ x9 → (V294 71 (gr.length + 1)).toInt = (gm 1 x9.toNat)) ∧ (0 ≤ (V294 71 (gr.length + 1)).toInt ∧ (V294 71 (gr.length + 1)).toInt < ((nC gB : Nat) : Int)) := by
              by_cases h9 : 0 ≤ x9
              · have h8 := pc1 ⟨by omega, by omega⟩
                have h7 := rn.2.1 x9.toNat (by omega)
                have h6 : Int32.toNatClampNeg z20 = x9.toNat := by have h5 := i_clamp (x := z20) rfl (by omega); omega
                rw [h6, (up2_o hV260 (by decide))] at h8
                have h5 := congrArg Int32.toInt h8
                have h4 := h7.1.1
                have h3 := h7.2.2.1
                exact ⟨fun _ => by omega, by omega, by omega⟩
              · have h8 := pc2 (fun h7 => h9 (by omega))
                exact ⟨fun h7 => absurd h7 h9, by omega, by omega⟩
            have ft9 : FRc V294 gB (gr.length + 1) (Fcall0 (lv + 1) x9 (gm 1 x9.toNat) sc tg g) := ⟨⟨pk1, pk2⟩, by omega, by omega, fun h9 => ⟨by omega, c71.1 h9⟩, c71.2, ⟨by omega, by omega, by omega⟩, ⟨by omega, by omega, by omega⟩, p74.trans q78⟩
            have rz9 : RW V294 gB (mU gm 0 6 0, ga, Fcall0 (lv + 1) x9 (gm 1 x9.toNat) sc tg g :: Fwait lv o c sc 0 0 at9 v p :: gr) := RW.sgn rwq (ESw.ag (show agr [(5, 6), (5, 9)] [67, 68, 69, 70, 71, 72, 73, 74, 75, 76, 77, 78, 79, 80, 81, 82, 83, 84, 85] V V294 from (agr.tr (agr.up agr.rf hV260 rfl) ajV294 (by decide) (by decide))) (by decide)) pd2 (fun h9 => absurd h9 (by decide)) (fun h9 => absurd h9 (by decide)) (show (V294 5 6).toInt = ((gr.length + 1 + 1 : Nat) : Int) from by omega) (show (V294 5 7).toInt = ((tw9 : Nat) : Int) from by rw [((ajV294 5 7 rfl).trans (up2_o hV260 (by decide)))]; exact rt9) (RWl.push rl315 ft9 rfl (np9 rfl))
            have rx316 : RW V294 gB (stM gB (gm, ga, gfr :: gr)) := by rw [hfe, st_14j (show ¬ bK gB c.toNat nd.toNat = 2 from by (first | exact om_ae9e2a5c6706 kd9 f257 | omega)) jd9]; exact rz9
            refine W.know (fun kr1 kr2 => ?_)
            refine W.widen (k := zcc Z) (n := zss Z) (Nat.sub_le _ _) (Nat.sub_le _ _) ?_
            exact W.vret hx hb hr (fun t ht hW => ⟨⟨(V294, L, Z296), rfl, ⟨hMV294, agV294, rfl, zoZ296, t298, rx316⟩, ⟨by rw [ht]; exact hP, va_K.moved hW.alike hK, hD⟩, by rw [ht]; exact kr1, by rw [ht]; exact kr2⟩, hS.F ht⟩) hS.2.2 dX5_callNeed_119
          · skip
            have f317 : z20.toInt = (-1) := b_eq rfl (by decide) c258
            exfalso; omega
      · skip
        have f318 : ((V 60 (8 * (24 * b + (Int32.toNatClampNeg (V 71 gf))) + (Int32.toNatClampNeg (V 75 gf))))).toInt = 2 := b_eq rfl (by decide) c196
        refine lv_aload_n hx hb dX5_callNeed_43 rfl (lv_at hl 3 rfl) ?_
        refine lv_bipush (v := 8) hx hb dX5_callNeed_44 (by decide) ?_
        refine va_putN (D := D) (ci := 4) (v := .int 8) (ty := tyX4 1) (fs := (xfFrame V gf)) (C := RX4) (T := TX4) (N := 19) hx hb hg inX4 tyX4 tyX4_ok nmX4 hown hK hP hD hS (336 + gf) (xgFrame hgf) rfl 1 (by decide) (hnw.use 1190 n1190 rfl) (fun _ h9 => h9) rfl (tyX4_ok 1 (by decide)) rfl rfl (Nat.le_of_ble_eq_true rfl) dX5_callNeed_46 (fun H locs hP hD hS => ?_)
        obtain ⟨V319, hV319⟩ : ∃ z, z = up2 V 68 gf 8 := ⟨_, rfl⟩
        have ew320 : (xw ad kk V L Z).set (336 + gf) ((Z.fa gf), .inr (4, (xfFrame V gf).set 1 (.int 8))) = xw ad kk V319 L Z := by rw [hV319]; exact xpFrame_phase hgf
        have hP : va_P D vwCl (xw ad kk V319 L Z) H := by rw [← ew320]; exact hP
        have hD : va_D A (xw ad kk V319 L Z) := by rw [← ew320]; exact hD
        have hMV319 : rgd bX V319 := hMV.put hV319 (i_full _)
        have agV319 : agr [(5, 6), (5, 9), (5, 10), (5, 11), (5, 12)] [67, 68, 69, 70, 71, 72, 73, 74, 75, 76, 77, 78, 79, 80, 81, 82, 83, 84, 85] V V319 := agV.up hV319 rfl
        refine lv_aload_n hx hb dX5_callNeed_49 rfl (lv_at hl 3 rfl) ?_
        refine lv_iconst (v := 0) hx hb dX5_callNeed_50 (by decide) ?_
        refine va_putN (D := D) (ci := 4) (v := .int 0) (ty := tyX4 9) (fs := (xfFrame V319 gf)) (C := RX4) (T := TX4) (N := 19) hx hb hg inX4 tyX4 tyX4_ok nmX4 hown hK hP hD hS (336 + gf) (xgFrame hgf) rfl 9 (by decide) (hnw.use 1198 n1198 rfl) (fun _ h9 => h9) rfl (tyX4_ok 9 (by decide)) rfl rfl (Nat.le_of_ble_eq_true rfl) dX5_callNeed_51 (fun H locs hP hD hS => ?_)
        obtain ⟨V321, hV321⟩ : ∃ z, z = up2 V319 76 gf 0 := ⟨_, rfl⟩
        have ew322 : (xw ad kk V319 L Z).set (336 + gf) ((Z.fa gf), .inr (4, (xfFrame V319 gf).set 9 (.int 0))) = xw ad kk V321 L Z := by rw [hV321]; exact xpFrame_item hgf
        have hP : va_P D vwCl (xw ad kk V321 L Z) H := by rw [← ew322]; exact hP
        have hD : va_D A (xw ad kk V321 L Z) := by rw [← ew322]; exact hD
        have hMV321 : rgd bX V321 := hMV319.put hV321 (i_full _)
        have agV321 : agr [(5, 6), (5, 9), (5, 10), (5, 11), (5, 12)] [67, 68, 69, 70, 71, 72, 73, 74, 75, 76, 77, 78, 79, 80, 81, 82, 83, 84, 85] V V321 := agV319.up hV321 rfl
        refine lv_aload_n hx hb dX5_callNeed_54 rfl (lv_at hl 3 rfl) ?_
        refine lv_iconst (v := 0) hx hb dX5_callNeed_55 (by decide) ?_
        refine va_putN (D := D) (ci := 4) (v := .int 0) (ty := tyX4 12) (fs := (xfFrame V321 gf)) (C := RX4) (T := TX4) (N := 19) hx hb hg inX4 tyX4 tyX4_ok nmX4 hown hK hP hD hS (336 + gf) (xgFrame hgf) rfl 12 (by decide) (hnw.use 1201 n1201 rfl) (fun _ h9 => h9) rfl (tyX4_ok 12 (by decide)) rfl rfl (Nat.le_of_ble_eq_true rfl) dX5_callNeed_56 (fun H locs hP hD hS => ?_)
        obtain ⟨V323, hV323⟩ : ∃ z, z = up2 V321 79 gf 0 := ⟨_, rfl⟩
        have ew324 : (xw ad kk V321 L Z).set (336 + gf) ((Z.fa gf), .inr (4, (xfFrame V321 gf).set 12 (.int 0))) = xw ad kk V323 L Z := by rw [hV323]; exact xpFrame_sum hgf
        have hP : va_P D vwCl (xw ad kk V323 L Z) H := by rw [← ew324]; exact hP
        have hD : va_D A (xw ad kk V323 L Z) := by rw [← ew324]; exact hD
        have hMV323 : rgd bX V323 := hMV321.put hV323 (i_full _)
        have agV323 : agr [(5, 6), (5, 9), (5, 10), (5, 11), (5, 12)] [67, 68, 69, 70, 71, 72, 73, 74, 75, 76, 77, 78, 79, 80, 81, 82, 83, 84, 85] V V323 := agV321.up hV323 rfl
        refine lv_aload_n hx hb dX5_callNeed_59 rfl (lv_at hl 2 rfl) ?_
        refine lv_iconst (v := 0) hx hb dX5_callNeed_60 (by decide) ?_
        refine gA_void (gA_runV (As := [.int 0]) (rest := []) (ci := 5) (q0 := 5) hx hb hml hown hg hP hD hK hS hA hnw hgk (x_answerWith9 l D ks H.size ad kk V323 L Z 0 hMV323 ) w1304 w1306 w49 w171 w1307 rfl xgMachine hdV_yX5_answerWith ⟨Nat.le_of_ble_eq_true rfl, Nat.le_of_ble_eq_true rfl⟩ rfl hl.1 rfl (Nat.le_of_ble_eq_true rfl) dX5_callNeed_61 ⟨z0, z0⟩) hP hD hK hS hA (fun u326 H locs w327 hP hD hK hS => ?_)
        obtain ⟨V331, L332⟩ := u326
        obtain ⟨hMV331, ajV331, axL332, t328, t329, t330⟩ := w327
        have axL332 : L = L332 := Eq.symm axL332
        subst axL332
        have hP : va_P D vwCl (xw ad kk V331 L Z) H := hP
        have hD : va_D A (xw ad kk V331 L Z) := hD
        have hMV331 : rgd bX V331 := hMV331
        have ajV331 : agr [(5, 9), (5, 10)] [] V323 V331 := ajV331
        have agV331 : agr [(5, 6), (5, 9), (5, 10), (5, 11), (5, 12)] [67, 68, 69, 70, 71, 72, 73, 74, 75, 76, 77, 78, 79, 80, 81, 82, 83, 84, 85] V V331 := agV323.tr ajV331 (by decide) (by decide)
        have t328 : (V331 5 9).toInt = 1 := t328
        have t329 : (V331 5 10).toInt = (Int32.toInt 0) := t329
        have t330 : ((True) ∧ V331 = (up2 (up2 V323 5 9 1) 5 10 0)) := t330
        have r333 : 0 ≤ ((V331 5 9)).toInt ∧ ((V331 5 9)).toInt ≤ 3 := hMV331 5 9
        have hw334 := t330.2
        obtain ⟨V335, hV335⟩ : ∃ z, z = up2 V323 5 9 1 := ⟨_, rfl⟩
        have hV331 : V331 = up2 V335 5 10 0 := by rw [hw334, hV335]
        refine lv_goto (tgt := 119) hx hb dX5_callNeed_64 (by decide) ?_
        have me336 : ME V V331 gf := (ME.up (ME.up (ME.up (ME.up (ME.up ME.rf hV319 (Or.inl ⟨by decide, by decide, Nat.le_refl _⟩)) hV321 (Or.inl ⟨by decide, by decide, Nat.le_refl _⟩)) hV323 (Or.inl ⟨by decide, by decide, Nat.le_refl _⟩)) hV335 (Or.inr (by omega))) hV331 (Or.inr (by omega)))
        have pq337 : (V331 67 gf).toInt = ((V 67 gf)).toInt := congrArg Int32.toInt ((up2_o hV331 (by decide)).trans ((up2_o hV335 (by decide)).trans ((up2_o hV323 (by decide)).trans ((up2_o hV321 (by decide)).trans (up2_o hV319 (by decide))))))
        have pq338 : (V331 68 gf).toInt = 8 := (congrArg Int32.toInt ((up2_o hV331 (by decide)).trans ((up2_o hV335 (by decide)).trans ((up2_o hV323 (by decide)).trans ((up2_o hV321 (by decide)).trans (up2_s hV319)))))).trans (by decide)
        have pq339 : (V331 70 gf).toInt = ((V 70 gf)).toInt := congrArg Int32.toInt ((up2_o hV331 (by decide)).trans ((up2_o hV335 (by decide)).trans ((up2_o hV323 (by decide)).trans ((up2_o hV321 (by decide)).trans (up2_o hV319 (by decide))))))
        have pq340 : (V331 71 gf).toInt = ((V 71 gf)).toInt := congrArg Int32.toInt ((up2_o hV331 (by decide)).trans ((up2_o hV335 (by decide)).trans ((up2_o hV323 (by decide)).trans ((up2_o hV321 (by decide)).trans (up2_o hV319 (by decide))))))
        have pq341 : (V331 75 gf).toInt = ((V 75 gf)).toInt := congrArg Int32.toInt ((up2_o hV331 (by decide)).trans ((up2_o hV335 (by decide)).trans ((up2_o hV323 (by decide)).trans ((up2_o hV321 (by decide)).trans (up2_o hV319 (by decide))))))
        have pq342 : (V331 76 gf).toInt = 0 := (congrArg Int32.toInt ((up2_o hV331 (by decide)).trans ((up2_o hV335 (by decide)).trans ((up2_o hV323 (by decide)).trans (up2_s hV321))))).trans (by decide)
        have pq343 : (V331 80 gf).toInt = ((V 80 gf)).toInt := congrArg Int32.toInt ((up2_o hV331 (by decide)).trans ((up2_o hV335 (by decide)).trans ((up2_o hV323 (by decide)).trans ((up2_o hV321 (by decide)).trans (up2_o hV319 (by decide))))))
        have pq344 : (V331 84 gf).toInt = ((V 84 gf)).toInt := congrArg Int32.toInt ((up2_o hV331 (by decide)).trans ((up2_o hV335 (by decide)).trans ((up2_o hV323 (by decide)).trans ((up2_o hV321 (by decide)).trans (up2_o hV319 (by decide))))))
        have pq345 : (V331 5 6).toInt = ((V 5 6)).toInt := congrArg Int32.toInt ((up2_k hV331 (by decide)).trans ((up2_k hV335 (by decide)).trans ((up2_o hV323 (by decide)).trans ((up2_o hV321 (by decide)).trans (up2_o hV319 (by decide))))))
        have pq346 : (V331 5 8).toInt = ((V 5 8)).toInt := congrArg Int32.toInt ((up2_k hV331 (by decide)).trans ((up2_k hV335 (by decide)).trans ((up2_o hV323 (by decide)).trans ((up2_o hV321 (by decide)).trans (up2_o hV319 (by decide))))))
        have pq347 : (V331 5 9).toInt = 1 := (congrArg Int32.toInt ((up2_k hV331 (by decide)).trans (up2_s hV335))).trans (by decide)
        have pq348 : (V331 3 13).toInt = ((V 3 13)).toInt := congrArg Int32.toInt ((up2_o hV331 (by decide)).trans ((up2_o hV335 (by decide)).trans ((up2_o hV323 (by decide)).trans ((up2_o hV321 (by decide)).trans (up2_o hV319 (by decide))))))
        have pq349 : (V331 43 (5 * b + 2)).toInt = ((V 43 (5 * b + 2))).toInt := congrArg Int32.toInt ((up2_o hV331 (by decide)).trans ((up2_o hV335 (by decide)).trans ((up2_o hV323 (by decide)).trans ((up2_o hV321 (by decide)).trans (up2_o hV319 (by decide))))))
        have pq350 : (V331 42 b).toInt = ((V 42 b)).toInt := congrArg Int32.toInt ((up2_o hV331 (by decide)).trans ((up2_o hV335 (by decide)).trans ((up2_o hV323 (by decide)).trans ((up2_o hV321 (by decide)).trans (up2_o hV319 (by decide))))))
        have pq351 : (V331 41 b).toInt = ((V 41 b)).toInt := congrArg Int32.toInt ((up2_o hV331 (by decide)).trans ((up2_o hV335 (by decide)).trans ((up2_o hV323 (by decide)).trans ((up2_o hV321 (by decide)).trans (up2_o hV319 (by decide))))))
        have ep354 : V331 84 gf = (V 84 gf) := ((up2_o hV331 (by decide)).trans ((up2_o hV335 (by decide)).trans ((up2_o hV323 (by decide)).trans ((up2_o hV321 (by decide)).trans (up2_o hV319 (by decide))))))
        have af353 : (V331 42 b).toInt ≤ (V331 84 gf).toInt ∨ (bdp V331 b (V331 84 gf).toInt.toNat).1 = true := by rw [ep354, me336.1.bd, me336.1 42 b (by decide) (by decide)]; exact ft
        have mo352 : MO V331 Z b gf True (QN V331 b) (QN V331 b) := MO.ch mo me336 ((up2_o hV331 (by decide)).trans ((up2_o hV335 (by decide)).trans ((up2_o hV323 (by decide)).trans ((up2_o hV321 (by decide)).trans (up2_o hV319 (by decide)))))) ((up2_o hV331 (by decide)).trans ((up2_o hV335 (by decide)).trans ((up2_o hV323 (by decide)).trans ((up2_o hV321 (by decide)).trans (up2_o hV319 (by decide)))))) (fun _ => Or.inl (by omega)) (fun x h => FK.k4 (by omega) (by omega) (by omega) af353 (by omega) (fun hph => absurd hph (by omega)))
        have rp355 : MJ V331 Z b := MO.mj mo352 (by (first | exact om_c09d41618ed8 hgf | omega)) (by (first | exact om_82fa09255765 gd pq345 | omega)) id id Or.inr
        have wr356 : (V331 3 13).toInt = (V 3 13).toInt := congrArg Int32.toInt ((up2_o hV331 (by decide)).trans ((up2_o hV335 (by decide)).trans ((up2_o hV323 (by decide)).trans ((up2_o hV321 (by decide)).trans (up2_o hV319 (by decide))))))
        have wr357 : (V331 3 12).toInt = (V 3 12).toInt := congrArg Int32.toInt ((up2_o hV331 (by decide)).trans ((up2_o hV335 (by decide)).trans ((up2_o hV323 (by decide)).trans ((up2_o hV321 (by decide)).trans (up2_o hV319 (by decide))))))
        have wr358 : (V331 67 gf).toInt = ((V 67 gf)).toInt := (congrArg Int32.toInt ((up2_o hV331 (by decide)).trans ((up2_o hV335 (by decide)).trans ((up2_o hV323 (by decide)).trans ((up2_o hV321 (by decide)).trans (up2_o hV319 (by decide)))))))
        have wr359 : (V331 68 gf).toInt = 8 := (congrArg Int32.toInt ((up2_o hV331 (by decide)).trans ((up2_o hV335 (by decide)).trans ((up2_o hV323 (by decide)).trans ((up2_o hV321 (by decide)).trans (up2_s hV319)))))).trans (by decide)
        have wr360 : (V331 69 gf).toInt = ((V 69 gf)).toInt := (congrArg Int32.toInt ((up2_o hV331 (by decide)).trans ((up2_o hV335 (by decide)).trans ((up2_o hV323 (by decide)).trans ((up2_o hV321 (by decide)).trans (up2_o hV319 (by decide)))))))
        have wr361 : (V331 70 gf).toInt = ((V 70 gf)).toInt := (congrArg Int32.toInt ((up2_o hV331 (by decide)).trans ((up2_o hV335 (by decide)).trans ((up2_o hV323 (by decide)).trans ((up2_o hV321 (by decide)).trans (up2_o hV319 (by decide)))))))
        have wr362 : (V331 71 gf).toInt = ((V 71 gf)).toInt := (congrArg Int32.toInt ((up2_o hV331 (by decide)).trans ((up2_o hV335 (by decide)).trans ((up2_o hV323 (by decide)).trans ((up2_o hV321 (by decide)).trans (up2_o hV319 (by decide)))))))
        have wr363 : (V331 72 gf).toInt = ((V 72 gf)).toInt := (congrArg Int32.toInt ((up2_o hV331 (by decide)).trans ((up2_o hV335 (by decide)).trans ((up2_o hV323 (by decide)).trans ((up2_o hV321 (by decide)).trans (up2_o hV319 (by decide)))))))
        have wr364 : (V331 75 gf).toInt = ((V 75 gf)).toInt := (congrArg Int32.toInt ((up2_o hV331 (by decide)).trans ((up2_o hV335 (by decide)).trans ((up2_o hV323 (by decide)).trans ((up2_o hV321 (by decide)).trans (up2_o hV319 (by decide)))))))
        have wr365 : (V331 76 gf).toInt = 0 := (congrArg Int32.toInt ((up2_o hV331 (by decide)).trans ((up2_o hV335 (by decide)).trans ((up2_o hV323 (by decide)).trans (up2_s hV321))))).trans (by decide)
        have wr366 : (V331 77 gf).toInt = ((V 77 gf)).toInt := (congrArg Int32.toInt ((up2_o hV331 (by decide)).trans ((up2_o hV335 (by decide)).trans ((up2_o hV323 (by decide)).trans ((up2_o hV321 (by decide)).trans (up2_o hV319 (by decide)))))))
        have wr367 : (V331 84 gf).toInt = ((V 84 gf)).toInt := (congrArg Int32.toInt ((up2_o hV331 (by decide)).trans ((up2_o hV335 (by decide)).trans ((up2_o hV323 (by decide)).trans ((up2_o hV321 (by decide)).trans (up2_o hV319 (by decide)))))))
        have me368 : ME V V331 gf := (ME.up (ME.up (ME.up (ME.up (ME.up ME.rf hV319 (Or.inl ⟨by decide, by decide, Nat.le_refl _⟩)) hV321 (Or.inl ⟨by decide, by decide, Nat.le_refl _⟩)) hV323 (Or.inl ⟨by decide, by decide, Nat.le_refl _⟩)) hV335 (Or.inr (by omega))) hV331 (Or.inr (by omega)))
        have rl369 : RWl V331 gB gr t0 := RWl.mv hlr (fun i9 hi9 c9 h1 h2 => me368.2.1 c9 i9 h1 h2 (by omega)) (fun j9 hj9 => ((up2_o hV331 (by decide)).trans ((up2_o hV335 (by decide)).trans ((up2_o hV323 (by decide)).trans ((up2_o hV321 (by decide)).trans (up2_o hV319 (by decide))))))) (by rw [((up2_o hV331 (by decide)).trans ((up2_o hV335 (by decide)).trans ((up2_o hV323 (by decide)).trans ((up2_o hV321 (by decide)).trans (up2_o hV319 (by decide))))))]; exact Int.le_refl _) ((up2_o hV331 (by decide)).trans ((up2_o hV335 (by decide)).trans ((up2_o hV323 (by decide)).trans ((up2_o hV321 (by decide)).trans (up2_o hV319 (by decide))))))
        have fo8 : FRc V331 gB gr.length (Fsum lv o c sc at9 nd tg 0 v g 0 p) := by rw [gl9]; exact ⟨⟨by omega, by omega⟩, ⟨by omega, ⟨by omega, by omega, by omega⟩, ⟨by omega, by omega, by omega⟩, ⟨by omega, by omega, by omega⟩⟩, ⟨a0, by omega⟩, by omega, by omega, by omega, (((up2_o hV331 (by decide)).trans ((up2_o hV335 (by decide)).trans ((up2_o hV323 (by decide)).trans ((up2_o hV321 (by decide)).trans (up2_o hV319 (by decide)))))).trans q74), (((up2_o hV331 (by decide)).trans ((up2_o hV335 (by decide)).trans ((up2_o hV323 (by decide)).trans ((up2_o hV321 (by decide)).trans (up2_o hV319 (by decide)))))).trans q78), ((up2_o hV331 (by decide)).trans ((up2_o hV335 (by decide)).trans (up2_s hV323)))⟩
        have rl370 : RWl V331 gB (Fsum lv o c sc at9 nd tg 0 v g 0 p :: gr) tw9 := ⟨t0, tl7, fo8, fun _ _ => (by rw [gl9, ((up2_o hV331 (by decide)).trans ((up2_o hV335 (by decide)).trans ((up2_o hV323 (by decide)).trans ((up2_o hV321 (by decide)).trans (up2_o hV319 (by decide))))))]; exact hb8), plC.mv hp8 (fun j9 _ => ((up2_o hV331 (by decide)).trans ((up2_o hV335 (by decide)).trans ((up2_o hV323 (by decide)).trans ((up2_o hV321 (by decide)).trans (up2_o hV319 (by decide))))))), rl369⟩
        have rz9 : RW V331 gB (mU gm 0 6 1, 0, Fsum lv o c sc at9 nd tg 0 v g 0 p :: gr) := RW.sgn rwq (ESw.ag (show agr [(5, 9), (5, 10)] [68, 76, 79] V V331 from (agr.up (agr.up (agr.up (agr.up (agr.up agr.rf hV319 rfl) hV321 rfl) hV323 rfl) hV335 rfl) hV331 rfl)) (by decide)) (by (first | exact om_710535a98d88 t328 | omega)) (fun _ => (up2_s hV331)) (fun h9 => absurd h9 (by decide)) (show (V331 5 6).toInt = ((gr.length + 1 : Nat) : Int) from by (first | exact om_ccabef0d2974 gd gl9 pq345 | omega)) (show (V331 5 7).toInt = ((tw9 : Nat) : Int) from by rw [((up2_k hV331 (by decide)).trans ((up2_k hV335 (by decide)).trans ((up2_o hV323 (by decide)).trans ((up2_o hV321 (by decide)).trans (up2_o hV319 (by decide))))))]; exact rt9) rl370
        have rx371 : RW V331 gB (stM gB (gm, ga, gfr :: gr)) := by rw [hfe, st_14a (show bK gB c.toNat nd.toNat = 2 from by (first | exact om_93c6a791f561 kd9 f318 | omega))]; exact rz9
        refine W.know (fun kr1 kr2 => ?_)
        refine W.widen (k := zcc Z) (n := zss Z) (Nat.sub_le _ _) (Nat.sub_le _ _) ?_
        exact W.vret hx hb hr (fun t ht hW => ⟨⟨(V331, L, Z), rfl, ⟨hMV331, agV331, rfl, zoZ, rp355, rx371⟩, ⟨by rw [ht]; exact hP, va_K.moved hW.alike hK, hD⟩, by rw [ht]; exact kr1, by rw [ht]; exact kr2⟩, hS.F ht⟩) hS.2.2 dX5_callNeed_119
  · skip
    have hf : FRc V gB gf (Fget lv o c sc at9 nd tg v g p) := by rw [← hfe]; exact hf0
    have tl8 : tw9 = t0 + (Fget lv o c sc at9 nd tg v g p : Fr).2.2.2.length := by rw [← hfe]; exact tl9
    obtain ⟨⟨k67, k68⟩, hoc, ⟨a0, q84⟩, q75, q77, q74, q78⟩ := hf
    obtain ⟨q69, ⟨q70, o0, o1⟩, ⟨q71, c0, c1⟩, ⟨q72, s0, s1⟩⟩ := hoc
    have cn9 : c.toNat < nC gB := by omega
    have kc9 : Int32.toNatClampNeg (V 71 gf) = c.toNat := by have h9 := i_clamp (x := V 71 gf) rfl (by omega); omega
    have ko9 : Int32.toNatClampNeg (V 70 gf) = o.toNat := by have h9 := i_clamp (x := V 70 gf) rfl (by omega); omega
    have tl7 : tw9 = t0 + p.length := tl8
    have hb8 : (V 85 gf).toInt = (t0 : Int) := hbs9 (by rw [hfe]; exact (by decide : (12 : Nat) ≤ 15)) (by rw [hfe]; exact (by decide : (15 : Nat) ≤ 16))
    have hp8 : plC V tw9 p := by have h9 := hpl9; rw [hfe] at h9; exact h9
    exfalso; omega
  · skip
    have hf : FRc V gB gf (Fsum lv o c sc at9 nd tg it v g u p) := by rw [← hfe]; exact hf0
    have tl8 : tw9 = t0 + (Fsum lv o c sc at9 nd tg it v g u p : Fr).2.2.2.length := by rw [← hfe]; exact tl9
    obtain ⟨⟨k67, k68⟩, hoc, ⟨a0, q84⟩, q75, q77, q76, q74, q78, q79⟩ := hf
    obtain ⟨q69, ⟨q70, o0, o1⟩, ⟨q71, c0, c1⟩, ⟨q72, s0, s1⟩⟩ := hoc
    have cn9 : c.toNat < nC gB := by omega
    have kc9 : Int32.toNatClampNeg (V 71 gf) = c.toNat := by have h9 := i_clamp (x := V 71 gf) rfl (by omega); omega
    have ko9 : Int32.toNatClampNeg (V 70 gf) = o.toNat := by have h9 := i_clamp (x := V 70 gf) rfl (by omega); omega
    have tl7 : tw9 = t0 + p.length := tl8
    have hb8 : (V 85 gf).toInt = (t0 : Int) := hbs9 (by rw [hfe]; exact (by decide : (12 : Nat) ≤ 16)) (by rw [hfe]; exact (by decide : (16 : Nat) ≤ 16))
    have hp8 : plC V tw9 p := by have h9 := hpl9; rw [hfe] at h9; exact h9
    exfalso; omega
end
section
/-! how many values there are -/
theorem RWl.tot {V : Vf} {B : Bk} : ∀ {fs : List Fr} {t : Nat}, RWl V B fs t → t = totP fs
  | [], _, h => h
  | f :: r, t, h => by
    obtain ⟨t0, h1, _, _, _, h5⟩ := h
    have z := RWl.tot h5
    unfold totP at z ⊢
    rw [List.map_cons, List.sum_cons]
    omega
def lateJ (B : Bk) (m : Mm) (a : Int32) (o nd : Nat) : Mm := if bS B (m 1 a.toInt.toNat).toNat = 3 ∧ jnd m o nd 0 = none then mJoin m o nd a.toInt else m


abbrev r_x_componentOf9b : Room := { frames := 1, cells := 0, slots := 0, locals := 21 }
abbrev q_x_componentOf9b (D : va_G) (ks : KS) (ad : Nat → Nat) (kk : Nat → ClassId) (V : Vf) (L : Lf) (Z : XZ) (p0 : Int32) (A : Nat → Prop) : Array Value → State → Outcome → State → Prop := va_Qi (fun (r : Int32) (_ : Unit) => (0 ≤ r.toInt ∧ r.toInt ≤ 23) ∧ (∀ n : Int, 0 < n → (∀ o : Nat, (o : Int) < (V 3 13).toInt → (V 26 o).toInt < n) → r.toInt < n) ∧ (∀ o : Nat, p0.toInt = (o : Int) → (o : Int) < (V 3 13).toInt → r = V 26 o) ∧ ((0 ≤ p0.toInt ∧ p0.toInt < (V 3 13).toInt ∧ r.toInt = (V 26 (Int32.toNatClampNeg p0)).toInt) ∨ ((p0.toInt < 0 ∨ (V 3 13).toInt ≤ p0.toInt) ∧ r.toInt = 0))) (fun _ t => gq D A (xw ad kk V L Z) (xty kk Z) t) A
set_option maxHeartbeats 4000000 in
set_option maxRecDepth 100000 in
theorem x_componentOf9b (l : Launch) (D : va_G) (ks : KS) (sz : Nat) (ad : Nat → Nat) (kk : Nat → ClassId) (V : Vf) (L : Lf) (Z : XZ) (p0 : Int32) (hMV : rgd bX V)  : Met l yX8_componentOf (Cond.code yX8_componentOf cX8_componentOf 2 (some .int) :: GW) r_x_componentOf9b (va_Pc [.ref (ad 3), .int p0] (gp D ks (xw ad kk V L Z) (xty kk Z) sz)) (q_x_componentOf9b D ks ad kk V L Z p0 (va_A (xw ad kk V L Z) sz)) 0 0 (va_A (xw ad kk V L Z) sz) := by
  refine g_met (q_x_componentOf9b D ks ad kk V L Z p0) (by decide) (Nat.le_of_ble_eq_true rfl) ?_
  intro p e s m below meth c A ls H locs hx hb hr hml hown hg hlocks hin hnw hgk hP hK hD hS hA hl
  have hown : s.vm.findClass RX8 = some m.cls := hown
  have hl : lv_has ls 2 [(0, .ref (ad 3)), (1, .int p0)] := hl
  have hP : va_P D vwCl (xw ad kk V L Z) H := hP
  have hD : va_D A (xw ad kk V L Z) := hD
  have hK : va_K D vwCl (xty kk Z) s := hK
  refine lv_aload_n hx hb dX8_componentOf_0 rfl (lv_at hl 0 rfl) ?_
  refine lv_iload_n hx hb dX8_componentOf_1 rfl (lv_at hl 1 rfl) ?_
  refine gA_int (gA_runV (As := [.int p0]) (rest := []) (ci := 8) (q0 := 3) hx hb hml hown hg hP hD hK hS hA hnw hgk (x_has2 l D ks H.size ad kk V L Z p0 hMV ) w1300 w1301 w1302 w164 w1303 rfl xgStock hdV_yX8_has ⟨Nat.le_of_ble_eq_true rfl, Nat.le_of_ble_eq_true rfl⟩ rfl hl.1 rfl (Nat.le_of_ble_eq_true rfl) dX8_componentOf_2 ⟨Nat.le_of_ble_eq_true rfl, Nat.le_of_ble_eq_true rfl⟩) hP hD hK hS hA (fun z1 u2 H locs w3 hP hD hK hS => ?_)
  obtain ⟨rgz1, t4, t5⟩ := w3
  have rgz1 : 0 ≤ z1.toInt ∧ z1.toInt ≤ 1 := rgz1
  have t4 : Imp (z1.toInt = 1) (0 ≤ p0.toInt ∧ p0.toInt < (V 3 13).toInt) := t4
  have t5 : Imp (z1.toInt = 0) (p0.toInt < 0 ∨ (V 3 13).toInt ≤ p0.toInt) := t5
  have r6 : 0 ≤ ((V 3 13)).toInt ∧ ((V 3 13)).toInt ≤ 300 := hMV 3 13
  refine lv_if_eq (tgt := 17) hx hb dX8_componentOf_5 (by decide) (fun c7 => ?_) (fun c7 => ?_)
  · skip
    have f8 : z1.toInt = 0 := b_eq rfl (by decide) c7
    refine lv_iconst (v := 0) hx hb dX8_componentOf_17 (by decide) ?_
    have r9 : 0 ≤ ((V 26 (Int32.toNatClampNeg p0))).toInt ∧ ((V 26 (Int32.toNatClampNeg p0))).toInt ≤ 23 := hMV 26 (Int32.toNatClampNeg p0)
    exact W.iret (v := 0) hx hb hr (fun t ht hW => ⟨⟨0, (), rfl, ⟨(by decide), (fun n h0 _ => h0), (fun o h1 h2 => absurd h2 (by first | omega | ((try (have i_t5 := Imp.go t5 (by omega))); (try (have i_t4 := Imp.go t4 (by omega))); (try (have i_t4 := Imp.go t4 (by omega))); (try (have i_t5 := Imp.go t5 (by omega))); omega))), (show (0 ≤ p0.toInt ∧ p0.toInt < (V 3 13).toInt ∧ 0 = (V 26 (Int32.toNatClampNeg p0)).toInt) ∨ ((p0.toInt < 0 ∨ (V 3 13).toInt ≤ p0.toInt) ∧ 0 = 0) from by first | omega | ((try (have i_t5 := Imp.go t5 (by omega))); (try (have i_t4 := Imp.go t4 (by omega))); (try (have i_t4 := Imp.go t4 (by omega))); (try (have i_t5 := Imp.go t5 (by omega))); omega))⟩, by rw [ht]; exact hP, va_K.moved hW.alike hK, hD⟩, hS.F ht⟩) hS.2.2 dX8_componentOf_18
  · skip
    have f10 : z1.toInt ≠ 0 := b_neq rfl (by decide) c7
    refine lv_aload_n hx hb dX8_componentOf_8 rfl (lv_at hl 0 rfl) ?_
    refine va_get (D := D) (ci := 8) (v := .ref (ad 23)) (fs := (xfStock ad V L Z)) (C := RX8) (T := TX8) (N := 16) hx hb hg inX8 hown hK hP 3 xgStock rfl 5 (by decide) (hg _ w379) (fun _ h9 => h9) rfl dX8_componentOf_9 ?_
    refine lv_iload_n hx hb dX8_componentOf_12 rfl (lv_at hl 1 rfl) ?_
    refine va_iald (D := D) (i := p0) hx hb hK hP 23 16 rfl rfl (i_in (a := p0.toInt) rfl (by first | exact om_e23680f16df4 r6.2 ((Imp.go t4 (imp_a (rgz1.1) (rgz1.2) (f10))).1) ((Imp.go t4 (imp_a (rgz1.1) (rgz1.2) (f10))).2) | first | omega | ((try (have i_t5 := Imp.go t5 (by omega))); (try (have i_t4 := Imp.go t4 (by omega))); (try (have i_t4 := Imp.go t4 (by omega))); (try (have i_t5 := Imp.go t5 (by omega))); omega))) dX8_componentOf_13 ?_
    have r11 : 0 ≤ ((V 26 (Int32.toNatClampNeg p0))).toInt ∧ ((V 26 (Int32.toNatClampNeg p0))).toInt ≤ 23 := hMV 26 (Int32.toNatClampNeg p0)
    refine lv_goto (tgt := 18) hx hb dX8_componentOf_14 (by decide) ?_
    have kcp := i_clamp (x := p0) rfl (by first | exact om_eafa9039069c ((Imp.go t4 (imp_a (rgz1.1) (rgz1.2) (f10))).1) | first | omega | ((try (have i_t5 := Imp.go t5 (by omega))); (try (have i_t4 := Imp.go t4 (by omega))); (try (have i_t4 := Imp.go t4 (by omega))); (try (have i_t5 := Imp.go t5 (by omega))); omega))
    have kcp := i_clamp (x := p0) rfl (by first | exact om_eafa9039069c ((Imp.go t4 (imp_a (rgz1.1) (rgz1.2) (f10))).1) | first | omega | ((try (have i_t5 := Imp.go t5 (by omega))); (try (have i_t4 := Imp.go t4 (by omega))); (try (have i_t4 := Imp.go t4 (by omega))); (try (have i_t5 := Imp.go t5 (by omega))); omega))
    have rp12 : ∀ o : Nat, p0.toInt = (o : Int) → (o : Int) < (V 3 13).toInt → (V 26 (Int32.toNatClampNeg p0)) = V 26 o := fun o h1 h2 => congrArg (V 26) (by omega)
    exact W.iret (v := (V 26 (Int32.toNatClampNeg p0))) hx hb hr (fun t ht hW => ⟨⟨(V 26 (Int32.toNatClampNeg p0)), (), rfl, ⟨(show 0 ≤ ((V 26 (Int32.toNatClampNeg p0))).toInt ∧ ((V 26 (Int32.toNatClampNeg p0))).toInt ≤ 23 from by first | exact om_d3435e1acec6 r11.1 r11.2 | first | omega | ((try (have i_t5 := Imp.go t5 (by omega))); (try (have i_t4 := Imp.go t4 (by omega))); (try (have i_t4 := Imp.go t4 (by omega))); (try (have i_t5 := Imp.go t5 (by omega))); omega)), (fun n _ hh => hh _ (by first | omega | ((try (have i_t5 := Imp.go t5 (by omega))); (try (have i_t4 := Imp.go t4 (by omega))); (try (have i_t4 := Imp.go t4 (by omega))); (try (have i_t5 := Imp.go t5 (by omega))); omega))), rp12, (show (0 ≤ p0.toInt ∧ p0.toInt < (V 3 13).toInt ∧ ((V 26 (Int32.toNatClampNeg p0))).toInt = (V 26 (Int32.toNatClampNeg p0)).toInt) ∨ ((p0.toInt < 0 ∨ (V 3 13).toInt ≤ p0.toInt) ∧ ((V 26 (Int32.toNatClampNeg p0))).toInt = 0) from by first | exact om_7a42e296dfe1 ((Imp.go t4 (imp_a (rgz1.1) (rgz1.2) (f10))).1) ((Imp.go t4 (imp_a (rgz1.1) (rgz1.2) (f10))).2) | first | omega | ((try (have i_t5 := Imp.go t5 (by omega))); (try (have i_t4 := Imp.go t4 (by omega))); (try (have i_t4 := Imp.go t4 (by omega))); (try (have i_t5 := Imp.go t5 (by omega))); omega))⟩, by rw [ht]; exact hP, va_K.moved hW.alike hK, hD⟩, hS.F ht⟩) hS.2.2 dX8_componentOf_18
abbrev r_x_joinLate9 (Z : XZ) : Room := { frames := 3, cells := zcc Z, slots := zss Z, locals := 87 }
abbrev q_x_joinLate9 (D : va_G) (ks : KS) (ad : Nat → Nat) (kk : Nat → ClassId) (V : Vf) (L : Lf) (Z : XZ) (p1 : Int32) (b : Nat) (gf : Nat) (gB : Bk) (gm : Mm) (ga : Int32) (gfr : Fr) (gr : List Fr) (A : Nat → Prop) : Array Value → State → Outcome → State → Prop := qZv D (fun (u : Vf × Lf × XZ) => rgd bX u.1 ∧ agr [(3, 15)] [30, 31, 32] V u.1 ∧ u.2.1 = L ∧ ZL Z u.2.2 ∧ (MO u.1 u.2.2 b gf True False True) ∧ (RW u.1 gB (lateJ gB gm ga (V 70 gf).toInt.toNat (V 75 gf).toInt.toNat, ga, gfr :: gr))) (fun u => xw ad kk u.1 u.2.1 u.2.2) (fun u => xty kk u.2.2) (fun u => zcc Z - zcc u.2.2) (fun u => zss Z - zss u.2.2) A
set_option maxHeartbeats 4000000 in
set_option maxRecDepth 100000 in
theorem x_joinLate9 (l : Launch) (D : va_G) (ks : KS) (sz : Nat) (ad : Nat → Nat) (kk : Nat → ClassId) (V : Vf) (L : Lf) (Z : XZ) (p1 : Int32) (b : Nat) (gf : Nat) (gB : Bk) (gm : Mm) (ga : Int32) (gfr : Fr) (gr : List Fr) (hMV : rgd bX V) (hb2 : b < 2) (hgf : gf < Z.nf) (mo : MO V Z b gf True (¬ NN V b) True) (gd : (gf : Int) + 1 = (V 5 6).toInt) (gk : (V 67 gf).toInt = 4) (gph : (V 68 gf).toInt = 7) (hgt : p1.toInt = (V 5 10).toInt) (rwq : RW V gB (gm, ga, gfr :: gr)) (bc : BKc V b gB) (sl8 : (V 5 6).toInt ≤ 395) (a10 : p1 = ga) (ar0 : 0 ≤ ga.toInt ∧ ga.toInt < gm 0 2) (nd8 : (V 75 gf).toInt ≤ 7) (jnn : ∀ j : Nat, 0 ≤ gm 7 j)  : Met l yX5_joinLate (Cond.code yX5_joinLate cX5_joinLate 4 none :: GW) (r_x_joinLate9 Z) (va_Pc [.ref (ad 5), .ref (Z.fa gf), .int p1] (gp D ks (xw ad kk V L Z) (xty kk Z) sz)) (q_x_joinLate9 D ks ad kk V L Z p1 b gf gB gm ga gfr gr (va_A (xw ad kk V L Z) sz)) (zcc Z) (zss Z) (va_A (xw ad kk V L Z) sz) := by
  refine g_met (q_x_joinLate9 D ks ad kk V L Z p1 b gf gB gm ga gfr gr) (by decide) (Nat.le_of_ble_eq_true rfl) ?_
  intro p e s m below meth c A ls H locs hx hb hr hml hown hg hlocks hin hnw hgk hP hK hD hS hA hl
  have hown : s.vm.findClass RX5 = some m.cls := hown
  have hl : lv_has ls 4 [(0, .ref (ad 5)), (1, .ref (Z.fa gf)), (2, .int p1)] := hl
  have hP : va_P D vwCl (xw ad kk V L Z) H := hP
  have hD : va_D A (xw ad kk V L Z) := hD
  have hK : va_K D vwCl (xty kk Z) s := hK
  have agV : agr [(3, 15)] [30, 31, 32] V V := agr.rf
  have zoZ : ZL Z Z := ZL.rf
  refine W.know (fun ka kb => ?_)
  refine W.tight (k := zcc Z - zcc Z) (n := zss Z - zss Z) (by omega) (by omega) ?_
  have r1 : 0 ≤ ((V 5 6)).toInt ∧ ((V 5 6)).toInt ≤ 400 := hMV 5 6
  have kdp := i_clamp (x := V 5 6) rfl (by (first | exact om_c66f1b494bd9 gd | omega))
  have hdn : (gf : Int) + 1 ≤ (Z.nf : Int) := by (first | exact om_29efded833ec hgf | omega)
  have mup := MO.up mo
  have msz := mup.1
  have mbk := mup.2.2.2.1
  obtain ⟨xk, fk⟩ := MO.fk mo
  have r2 : (-1) ≤ ((V 71 gf)).toInt ∧ ((V 71 gf)).toInt ≤ 23 := hMV 71 gf
  have r3 : 0 ≤ ((V 75 gf)).toInt ∧ ((V 75 gf)).toInt ≤ 12 := hMV 75 gf
  have r4 : 0 ≤ ((V 80 gf)).toInt ∧ ((V 80 gf)).toInt ≤ 300 := hMV 80 gf
  have r5 : 0 ≤ ((V 84 gf)).toInt ∧ ((V 84 gf)).toInt ≤ 2147483647 := hMV 84 gf
  have r6 : 0 ≤ ((V 5 8)).toInt ∧ ((V 5 8)).toInt ≤ 300 := hMV 5 8
  have r7 : 0 ≤ ((V 5 9)).toInt ∧ ((V 5 9)).toInt ≤ 3 := hMV 5 9
  have r8 : 0 ≤ ((V 3 13)).toInt ∧ ((V 3 13)).toInt ≤ 300 := hMV 3 13
  have r9 : 0 ≤ ((V 43 (5 * b + 2))).toInt ∧ ((V 43 (5 * b + 2))).toInt ≤ ((xcap (5 * b + 2) : Nat) : Int) := hMV 43 (5 * b + 2)
  have r10 : xcap (5 * b + 2) = 24 := xcap_2
  have r11 : 0 ≤ ((V 41 b)).toInt ∧ ((V 41 b)).toInt ≤ 12 := hMV 41 b
  have r12 : 0 ≤ ((V 42 b)).toInt ∧ ((V 42 b)).toInt ≤ 8200 := hMV 42 b
  have fc := fk.1 (by omega)
  have fo := fk.2.1 (by omega) (by omega)
  have ft := fk.2.2.1 (by omega)
  have fq := fk.2.2.2.1 (by omega)
  have mlc := mup.2.2.2.2.2.2.2.2.1
  have fq7 := fq (by omega)
  have m1 : Int32.toInt (-1) = -1 := by decide
  have rw0 := rwq
  obtain ⟨⟨ow, rn⟩, rh, rd, tw9, rt9, rl⟩ := rw0
  have rn : RWn V ow gB gm := rn
  have rh : RWh V gm ga := rh
  have rd2 : (V 5 6).toInt = ((gr.length + 1 : Nat) : Int) := rd
  have gl9 : gr.length = gf := by (first | exact om_ec03263ced6a gd rd2 | omega)
  have sl9 : gr.length ≤ 394 := by (first | exact om_8b199089418a sl8 rd2 | omega)
  have rh1 : (V 5 9).toInt = gm 0 6 := rh.1
  have ra2 : (V 3 13).toInt = gm 0 2 := rn.1.1.2.2.1
  have rl0 := rl
  obtain ⟨t0, tl9, hf0, hbs9, hpl9, hlr⟩ := rl0
  rw [gl9] at hf0 hbs9
  rcases FRc.k4 hf0 gk with ⟨lv, o, c, sc, me, ps, at9, v, p, hfe⟩ | ⟨lv, o, c, sc, me, ps, at9, v, p, hfe⟩ | ⟨lv, o, c, sc, at9, nd, tg, v, g, p, hfe⟩ | ⟨lv, o, c, sc, at9, nd, tg, v, g, p, hfe⟩ | ⟨lv, o, c, sc, at9, nd, tg, it, v, g, u, p, hfe⟩
  · skip
    have hf : FRc V gB gf (Fwork lv o c sc me ps at9 v p) := by rw [← hfe]; exact hf0
    have tl8 : tw9 = t0 + (Fwork lv o c sc me ps at9 v p : Fr).2.2.2.length := by rw [← hfe]; exact tl9
    obtain ⟨⟨k67, k68⟩, hoc, hps9, ⟨a0, q84⟩, q74⟩ := hf
    obtain ⟨q69, ⟨q70, o0, o1⟩, ⟨q71, c0, c1⟩, ⟨q72, s0, s1⟩⟩ := hoc
    have cn9 : c.toNat < nC gB := by omega
    have kc9 : Int32.toNatClampNeg (V 71 gf) = c.toNat := by have h9 := i_clamp (x := V 71 gf) rfl (by omega); omega
    have ko9 : Int32.toNatClampNeg (V 70 gf) = o.toNat := by have h9 := i_clamp (x := V 70 gf) rfl (by omega); omega
    have tl7 : tw9 = t0 + p.length := tl8
    have hb8 : (V 85 gf).toInt = (t0 : Int) := hbs9 (by rw [hfe]; exact (by decide : (12 : Nat) ≤ 12)) (by rw [hfe]; exact (by decide : (12 : Nat) ≤ 16))
    have hp8 : plC V tw9 p := by have h9 := hpl9; rw [hfe] at h9; exact h9
    exfalso; omega
  · skip
    have hf : FRc V gB gf (Fwait lv o c sc me ps at9 v p) := by rw [← hfe]; exact hf0
    have tl8 : tw9 = t0 + (Fwait lv o c sc me ps at9 v p : Fr).2.2.2.length := by rw [← hfe]; exact tl9
    obtain ⟨⟨k67, k68⟩, hoc, hps9, ⟨a0, q84⟩, q74⟩ := hf
    obtain ⟨q69, ⟨q70, o0, o1⟩, ⟨q71, c0, c1⟩, ⟨q72, s0, s1⟩⟩ := hoc
    have cn9 : c.toNat < nC gB := by omega
    have kc9 : Int32.toNatClampNeg (V 71 gf) = c.toNat := by have h9 := i_clamp (x := V 71 gf) rfl (by omega); omega
    have ko9 : Int32.toNatClampNeg (V 70 gf) = o.toNat := by have h9 := i_clamp (x := V 70 gf) rfl (by omega); omega
    have tl7 : tw9 = t0 + p.length := tl8
    have hb8 : (V 85 gf).toInt = (t0 : Int) := hbs9 (by rw [hfe]; exact (by decide : (12 : Nat) ≤ 13)) (by rw [hfe]; exact (by decide : (13 : Nat) ≤ 16))
    have hp8 : plC V tw9 p := by have h9 := hpl9; rw [hfe] at h9; exact h9
    exfalso; omega
  · skip
    have hf : FRc V gB gf (Fask lv o c sc at9 nd tg v g p) := by rw [← hfe]; exact hf0
    have tl8 : tw9 = t0 + (Fask lv o c sc at9 nd tg v g p : Fr).2.2.2.length := by rw [← hfe]; exact tl9
    obtain ⟨⟨k67, k68⟩, hoc, ⟨a0, q84⟩, q75, q77, q74, q78⟩ := hf
    obtain ⟨q69, ⟨q70, o0, o1⟩, ⟨q71, c0, c1⟩, ⟨q72, s0, s1⟩⟩ := hoc
    have cn9 : c.toNat < nC gB := by omega
    have kc9 : Int32.toNatClampNeg (V 71 gf) = c.toNat := by have h9 := i_clamp (x := V 71 gf) rfl (by omega); omega
    have ko9 : Int32.toNatClampNeg (V 70 gf) = o.toNat := by have h9 := i_clamp (x := V 70 gf) rfl (by omega); omega
    have tl7 : tw9 = t0 + p.length := tl8
    have hb8 : (V 85 gf).toInt = (t0 : Int) := hbs9 (by rw [hfe]; exact (by decide : (12 : Nat) ≤ 14)) (by rw [hfe]; exact (by decide : (14 : Nat) ≤ 16))
    have hp8 : plC V tw9 p := by have h9 := hpl9; rw [hfe] at h9; exact h9
    exfalso; omega
  · skip
    have hf : FRc V gB gf (Fget lv o c sc at9 nd tg v g p) := by rw [← hfe]; exact hf0
    have tl8 : tw9 = t0 + (Fget lv o c sc at9 nd tg v g p : Fr).2.2.2.length := by rw [← hfe]; exact tl9
    obtain ⟨⟨k67, k68⟩, hoc, ⟨a0, q84⟩, q75, q77, q74, q78⟩ := hf
    obtain ⟨q69, ⟨q70, o0, o1⟩, ⟨q71, c0, c1⟩, ⟨q72, s0, s1⟩⟩ := hoc
    have cn9 : c.toNat < nC gB := by omega
    have kc9 : Int32.toNatClampNeg (V 71 gf) = c.toNat := by have h9 := i_clamp (x := V 71 gf) rfl (by omega); omega
    have ko9 : Int32.toNatClampNeg (V 70 gf) = o.toNat := by have h9 := i_clamp (x := V 70 gf) rfl (by omega); omega
    have tl7 : tw9 = t0 + p.length := tl8
    have hb8 : (V 85 gf).toInt = (t0 : Int) := hbs9 (by rw [hfe]; exact (by decide : (12 : Nat) ≤ 15)) (by rw [hfe]; exact (by decide : (15 : Nat) ≤ 16))
    have hp8 : plC V tw9 p := by have h9 := hpl9; rw [hfe] at h9; exact h9
    have r77 : 0 ≤ (V 77 gf).toInt ∧ (V 77 gf).toInt ≤ 19 := hMV 77 gf
    refine lv_aload_n hx hb dX5_joinLate_0 rfl (lv_at hl 0 rfl) ?_
    refine va_get (D := D) (ci := 5) (v := .ref (ad (38 + Int32.toNatClampNeg (V 5 5)))) (fs := (xfMachine ad V L Z)) (C := RX5) (T := TX5) (N := 15) hx hb hg inX5 hown hK hP 5 xgMachine rfl 5 (by decide) (hg _ w672) (fun _ h9 => h9) rfl dX5_joinLate_1 ?_
    have r13 : 0 ≤ ((V 5 5)).toInt ∧ ((V 5 5)).toInt ≤ 1 := hMV 5 5
    refine g_topv (v := .ref (ad (38 + b))) (rfP (by omega)) ?_
    refine va_getN (D := D) (ci := 0) (v := .ref (ad (64 + b))) (fs := (xfBook ad V b)) (C := RX0) (T := TX0) (N := 13) hx hb hg inX0 hown hK hP (38 + b) (xgBook hb2) rfl 7 (by decide) (hnw.use 618 n618 rfl) (fun _ h9 => h9) rfl dX5_joinLate_4 ?_
    refine lv_aload_n hx hb dX5_joinLate_7 rfl (lv_at hl 0 rfl) ?_
    refine va_get (D := D) (ci := 5) (v := .ref (ad 3)) (fs := (xfMachine ad V L Z)) (C := RX5) (T := TX5) (N := 15) hx hb hg inX5 hown hK hP 5 xgMachine rfl 0 (by decide) (hg _ w667) (fun _ h9 => h9) rfl dX5_joinLate_8 ?_
    refine lv_iload_n hx hb dX5_joinLate_11 rfl (lv_at hl 2 rfl) ?_
    refine gA_int (gA_runV (As := [.int p1]) (rest := [.ref (ad (64 + b))]) (ci := 8) (q0 := 3) hx hb hml hown hg hP hD hK hS hA hnw hgk (x_componentOf9b l D ks H.size ad kk V L Z p1 hMV ) w1324 w1325 w1326 w164 w1327 rfl xgStock hdV_yX8_componentOf ⟨Nat.le_of_ble_eq_true rfl, Nat.le_of_ble_eq_true rfl⟩ rfl hl.1 rfl (Nat.le_of_ble_eq_true rfl) dX5_joinLate_12 ⟨z0, z0⟩) hP hD hK hS hA (fun z14 u15 H locs w16 hP hD hK hS => ?_)
    obtain ⟨rgz14, t17, t18, t19⟩ := w16
    have rgz14 : 0 ≤ z14.toInt ∧ z14.toInt ≤ 23 := rgz14
    have t17 : ∀ n : Int, 0 < n → (∀ o : Nat, (o : Int) < (V 3 13).toInt → (V 26 o).toInt < n) → z14.toInt < n := t17
    have t18 : ∀ o : Nat, p1.toInt = (o : Int) → (o : Int) < (V 3 13).toInt → z14 = V 26 o := t18
    have t19 : (0 ≤ p1.toInt ∧ p1.toInt < (V 3 13).toInt ∧ z14.toInt = (V 26 (Int32.toNatClampNeg p1)).toInt) ∨ ((p1.toInt < 0 ∨ (V 3 13).toInt ≤ p1.toInt) ∧ z14.toInt = 0) := t19
    have il20 : b < 2 := by (first | exact om_f940a4667dd6 hb2 | omega)
    refine va_aldq (D := D) (i := z14) hx hb hK hP (64 + b) (57 + b) (xgcomps il20) (xtcomps il20) (i_in (a := z14.toInt) rfl (by (first | exact om_dbb25e99819b rgz14.1 rgz14.2 | omega))) dX5_joinLate_15 ?_
    have kc21 := i_clamp (x := z14) rfl (by (first | exact om_eafa9039069c rgz14.1 | omega))
    refine g_topv (v := .ref (ad (72 + (24 * b + (Int32.toNatClampNeg z14))))) (congrArg va_rf (if_pos (by omega))) ?_
    have il22 : (24 * b + (Int32.toNatClampNeg z14)) < 48 := by (first | exact om_31a61188bc78 hb2 rgz14.2 kc21 | omega)
    refine va_getN (D := D) (ci := 3) (v := .int (V 51 (24 * b + (Int32.toNatClampNeg z14)))) (fs := (xfComp ad V (24 * b + (Int32.toNatClampNeg z14)))) (C := RX3) (T := TX3) (N := 13) hx hb hg inX3 hown hK hP (72 + (24 * b + (Int32.toNatClampNeg z14))) (xgComp il22) rfl 6 (by decide) (hnw.use 522 n522 rfl) (fun _ h9 => h9) rfl dX5_joinLate_16 ?_
    have r23 : 0 ≤ ((V 51 (24 * b + (Int32.toNatClampNeg z14)))).toInt ∧ ((V 51 (24 * b + (Int32.toNatClampNeg z14)))).toInt ≤ 3 := hMV 51 (24 * b + (Int32.toNatClampNeg z14))
    refine lv_iconst (v := 3) hx hb dX5_joinLate_19 (by decide) ?_
    refine lv_icmp_ne (tgt := 27) hx hb dX5_joinLate_20 (by decide) (fun c24 => ?_) (fun c24 => ?_)
    · skip
      have f25 : ((V 51 (24 * b + (Int32.toNatClampNeg z14)))).toInt ≠ 3 := b_neq rfl (by decide) c24
      refine lv_iconst (v := 0) hx hb dX5_joinLate_27 (by decide) ?_
      refine lv_istore_n (lv' := [(3, .int 0), (0, .ref (ad 5)), (1, .ref (Z.fa gf)), (2, .int p1)]) hx hb dX5_joinLate_28 rfl hl (by decide) rfl (fun ls hl => ?_)
      have on9 := rn.2.1 ga.toInt.toNat (by omega)
      have on1 := on9.1.1
      have on2 := on9.2.2.1
      have ka9 : Int32.toNatClampNeg p1 = ga.toInt.toNat := by rw [a10]; rfl
      have pa9 : p1.toInt = ga.toInt := by rw [a10]
      have cz9 := t19
      rw [ka9] at cz9
      have kz9 : Int32.toNatClampNeg z14 = (gm 1 ga.toInt.toNat).toNat := by have h9 := i_clamp (x := z14) rfl (by (first | exact om_eafa9039069c rgz14.1 | omega)); omega
      have s51 : (V 51 (24 * b + Int32.toNatClampNeg z14)).toInt = ((bS gB (gm 1 ga.toInt.toNat).toNat : Nat) : Int) := by rw [kz9]; exact BKc.sc bc (by omega)
      refine lv_iload_n hx hb dX5_joinLate_29 rfl (lv_at hl 0 rfl) ?_
      refine lv_if_eq (tgt := 69) hx hb dX5_joinLate_30 (by decide) (fun _ => ?_) (fun q => absurd (by decide) q)
      have me26 : ME V V gf := ME.rf
      have af28 : (V 42 b).toInt ≤ (V 84 gf).toInt ∨ (bdp V b (V 84 gf).toInt.toNat).1 = true := by rw [me26.1.bd, me26.1 42 b (by decide) (by decide)]; exact ft
      have mo27 : MO V Z b gf True False True := MO.ch mo me26 rfl rfl (fun _ => Or.inl (by omega)) (fun x h => FK.k4 (by omega) (by omega) (by omega) af28 (by omega) (fun _ z => z.elim))
      (try clear cz9); (try clear t19)
      have kp7 : (V 70 gf).toInt.toNat = o.toNat := by first | exact congrArg Int.toNat q70 | omega
      have kp6 : (V 75 gf).toInt.toNat = nd.toNat := by first | exact congrArg Int.toNat q75 | omega
      have rx29 : RW V gB (lateJ gB gm ga (V 70 gf).toInt.toNat (V 75 gf).toInt.toNat, ga, gfr :: gr) := by unfold lateJ; rw [kp7, kp6, if_neg (fun h9 => by have h8 := h9.1; omega)]; exact rwq
      refine W.know (fun kr1 kr2 => ?_)
      refine W.widen (k := zcc Z) (n := zss Z) (Nat.sub_le _ _) (Nat.sub_le _ _) ?_
      exact W.vret hx hb hr (fun t ht hW => ⟨⟨(V, L, Z), rfl, ⟨hMV, agV, rfl, zoZ, mo27, rx29⟩, ⟨by rw [ht]; exact hP, va_K.moved hW.alike hK, hD⟩, by rw [ht]; exact kr1, by rw [ht]; exact kr2⟩, hS.F ht⟩) hS.2.2 dX5_joinLate_69
    · skip
      have f30 : ((V 51 (24 * b + (Int32.toNatClampNeg z14)))).toInt = 3 := b_eq rfl (by decide) c24
      refine lv_iconst (v := 1) hx hb dX5_joinLate_23 (by decide) ?_
      refine lv_goto (tgt := 28) hx hb dX5_joinLate_24 (by decide) ?_
      refine lv_istore_n (lv' := [(3, .int 1), (0, .ref (ad 5)), (1, .ref (Z.fa gf)), (2, .int p1)]) hx hb dX5_joinLate_28 rfl hl (by decide) rfl (fun ls hl => ?_)
      have on9 := rn.2.1 ga.toInt.toNat (by omega)
      have on1 := on9.1.1
      have on2 := on9.2.2.1
      have ka9 : Int32.toNatClampNeg p1 = ga.toInt.toNat := by rw [a10]; rfl
      have pa9 : p1.toInt = ga.toInt := by rw [a10]
      have cz9 := t19
      rw [ka9] at cz9
      have kz9 : Int32.toNatClampNeg z14 = (gm 1 ga.toInt.toNat).toNat := by have h9 := i_clamp (x := z14) rfl (by (first | exact om_eafa9039069c rgz14.1 | omega)); omega
      have s51 : (V 51 (24 * b + Int32.toNatClampNeg z14)).toInt = ((bS gB (gm 1 ga.toInt.toNat).toNat : Nat) : Int) := by rw [kz9]; exact BKc.sc bc (by omega)
      refine lv_iload_n hx hb dX5_joinLate_29 rfl (lv_at hl 0 rfl) ?_
      refine lv_if_eq (tgt := 69) hx hb dX5_joinLate_30 (by decide) (fun q => absurd q (by decide)) (fun _ => ?_)
      have kn9 : Int32.toNatClampNeg (V 75 gf) = nd.toNat := by have h9 := i_clamp (x := V 75 gf) rfl (by (first | exact om_eafa9039069c r3.1 | omega)); omega
      refine lv_aload_n hx hb dX5_joinLate_33 rfl (lv_at hl 1 rfl) ?_
      refine va_get (D := D) (ci := 5) (v := .ref (ad 3)) (fs := (xfMachine ad V L Z)) (C := RX5) (T := TX5) (N := 15) hx hb hg inX5 hown hK hP 5 xgMachine rfl 0 (by decide) (hg _ w667) (fun _ h9 => h9) rfl dX5_joinLate_34 ?_
      refine lv_aload_n hx hb dX5_joinLate_37 rfl (lv_at hl 2 rfl) ?_
      refine va_getN (D := D) (ci := 4) (v := .int (V 70 gf)) (fs := (xfFrame V gf)) (C := RX4) (T := TX4) (N := 19) hx hb hg inX4 hown hK hP (336 + gf) (xgFrame hgf) rfl 3 (by decide) (hnw.use 1192 n1192 rfl) (fun _ h9 => h9) rfl dX5_joinLate_38 ?_
      refine lv_aload_n hx hb dX5_joinLate_41 rfl (lv_at hl 2 rfl) ?_
      refine va_getN (D := D) (ci := 4) (v := .int (V 75 gf)) (fs := (xfFrame V gf)) (C := RX4) (T := TX4) (N := 19) hx hb hg inX4 hown hK hP (336 + gf) (xgFrame hgf) rfl 8 (by decide) (hnw.use 1197 n1197 rfl) (fun _ h9 => h9) rfl dX5_joinLate_42 ?_
      refine lv_iconst (v := 0) hx hb dX5_joinLate_45 (by decide) ?_
      have r31 : Int32.toInt 0 = 0 := by decide
      refine gA_int (gA_runV (As := [.int (V 70 gf), .int (V 75 gf), .int 0]) (rest := []) (ci := 8) (q0 := 3) hx hb hml hown hg hP hD hK hS hA hnw hgk (x_joinedTo9 l D ks H.size ad kk V L Z (V 70 gf) (V 75 gf) 0 (ow) ((jl gm (8 * o.toNat + nd.toNat))) hMV mup.2.2.2.2.1 (by rw [ko9, kn9]; exact (rn.2.2.1 o.toNat nd.toNat (by omega) (by omega)).1) (show 0 ≤ ((V 70 gf)).toInt from by omega) (show ((V 70 gf)).toInt < (V 3 13).toInt from by omega) (show 0 ≤ ((V 75 gf)).toInt from by (first | exact om_eafa9039069c r3.1 | omega)) (show ((V 75 gf)).toInt ≤ 7 from by (first | exact om_49a7161795ae nd8 | omega)) (show 0 ≤ (Int32.toInt 0) from by (first | exact om_1531b20f57e1 r31 | omega))) w1439 w1440 w1441 w164 w1442 rfl xgStock hdV_yX8_joinedTo ⟨Nat.le_of_ble_eq_true rfl, Nat.le_of_ble_eq_true rfl⟩ rfl hl.1 rfl (Nat.le_of_ble_eq_true rfl) dX5_joinLate_46 ⟨z0, z0⟩) hP hD hK hS hA (fun z32 u33 H locs w34 hP hD hK hS => ?_)
      have t35 := w34
      have t35 : JTo (jl gm (8 * o.toNat + nd.toNat)) (Int32.toInt 0).toNat z32.toInt := t35
      have jt9 := t35
      rw [show (Int32.toInt 0).toNat = 0 from by decide] at jt9
      rcases jt9 with ⟨jz9, je9⟩ | ⟨x9, t8, je9, jz9⟩
      · skip
        have jd9 : jnd gm o.toNat nd.toNat 0 = none := jd_n je9
        have jq9 := jl_dn je9
        have jl9 := jl_len (m := gm) (q := 8 * o.toNat + nd.toNat)
        refine lv_iconst (v := (-1)) hx hb dX5_joinLate_49 (by decide) ?_
        refine lv_icmp_ne (tgt := 69) hx hb dX5_joinLate_50 (by decide) (fun c36 => ?_) (fun c36 => ?_)
        · skip
          have f37 : z32.toInt ≠ (-1) := b_neq rfl (by decide) c36
          exfalso; omega
        · skip
          have f38 : z32.toInt = (-1) := b_eq rfl (by decide) c36
          have hnn : ¬ NN V b := fun q => by obtain ⟨o, a1, a2, a3⟩ := q; have e := t18 o (by omega) a2; rw [← e] at a3; omega
          refine lv_aload_n hx hb dX5_joinLate_53 rfl (lv_at hl 1 rfl) ?_
          refine va_get (D := D) (ci := 5) (v := .ref (ad 3)) (fs := (xfMachine ad V L Z)) (C := RX5) (T := TX5) (N := 15) hx hb hg inX5 hown hK hP 5 xgMachine rfl 0 (by decide) (hg _ w667) (fun _ h9 => h9) rfl dX5_joinLate_54 ?_
          refine lv_aload_n hx hb dX5_joinLate_57 rfl (lv_at hl 2 rfl) ?_
          refine va_getN (D := D) (ci := 4) (v := .int (V 70 gf)) (fs := (xfFrame V gf)) (C := RX4) (T := TX4) (N := 19) hx hb hg inX4 hown hK hP (336 + gf) (xgFrame hgf) rfl 3 (by decide) (hnw.use 1192 n1192 rfl) (fun _ h9 => h9) rfl dX5_joinLate_58 ?_
          refine lv_aload_n hx hb dX5_joinLate_61 rfl (lv_at hl 2 rfl) ?_
          refine va_getN (D := D) (ci := 4) (v := .int (V 75 gf)) (fs := (xfFrame V gf)) (C := RX4) (T := TX4) (N := 19) hx hb hg inX4 hown hK hP (336 + gf) (xgFrame hgf) rfl 8 (by decide) (hnw.use 1197 n1197 rfl) (fun _ h9 => h9) rfl dX5_joinLate_62 ?_
          refine lv_iload_n hx hb dX5_joinLate_65 rfl (lv_at hl 3 rfl) ?_
          have r39 : 0 ≤ ((V 3 15)).toInt ∧ ((V 3 15)).toInt ≤ 262144 := hMV 3 15
          refine W.know (fun k41 k42 => ?_)
          obtain ⟨Hk40, hHk40⟩ : ∃ z, z = H := ⟨_, rfl⟩
          have k41 : Hk40.size ≤ s.heap.size + (zcc Z - zcc Z) := by rw [hHk40]; exact k41
          have k42 : tot Hk40 ≤ tot s.heap + (zss Z - zss Z) := by rw [hHk40]; exact k42
          refine gZ_void (gA_runV (As := [.int (V 70 gf), .int (V 75 gf), .int p1]) (rest := []) (ci := 8) (q0 := 3) hx hb hml hown hg hP hD hK hS hA hnw hgk (x_join9 l D ks H.size ad kk V L Z (V 70 gf) (V 75 gf) p1 (ow) ((jl gm (8 * o.toNat + nd.toNat))) hMV (by omega) (by (first | exact om_9008b48e08e9 nd8 r3.1 | omega)) mup.2.2.2.2.1 mup.2.2.2.2.2.2.2.2.2 (show (V 3 15).toInt ≤ 250000 from by omega) (show ((V 70 gf)).toInt < (V 3 13).toInt from by omega) (by rw [ko9, kn9]; exact (rn.2.2.1 o.toNat nd.toNat (by omega) (by omega)).1) (show (((jl gm (8 * o.toNat + nd.toNat)).length : Nat) : Int) ≤ 23 from by omega)) w1352 w1353 w1354 w164 w1355 rfl xgStock hdV_yX8_join ⟨Nat.le_of_ble_eq_true rfl, Nat.le_of_ble_eq_true rfl⟩ rfl hl.1 rfl (Nat.le_of_ble_eq_true rfl) dX5_joinLate_66 ⟨z1 zoZ.1, z1 zoZ.2.1⟩) hD hS hA (fun u44 H locs w45 hP hD hK hS y46 y47 => ?_)
          obtain ⟨V48, L49, Z50⟩ := u44
          obtain ⟨hMV48, ajV48, axL49, zlZ50, t52, t53⟩ := w45
          have axL49 : L = L49 := Eq.symm axL49
          subst axL49
          have hP : va_P D vwCl (xw ad kk V48 L Z50) H := hP
          have hD : va_D A (xw ad kk V48 L Z50) := hD
          have hK : va_K D vwCl (xty kk Z50) s := hK
          have hMV48 : rgd bX V48 := hMV48
          have ajV48 : agr [(3, 15)] [30, 31, 32] V V48 := ajV48
          have agV48 : agr [(3, 15)] [30, 31, 32] V V48 := agV.tr ajV48 (by decide) (by decide)
          have zlZ50 : ZL Z Z50 := zlZ50
          have zoZ50 : ZL Z Z50 := ZL.tr zoZ zlZ50
          have ziZ50 := zlZ50.1
          have zjZ50 := zlZ50.2.1
          have zkZ50 := zlZ50.2.2.1
          have zmZ50 := zoZ50.1
          have znZ50 := zoZ50.2.1
          have zpZ_Z50 := zoZ.1
          have zqZ_Z50 := zoZ.2.1
          have y46 : H.size ≤ Hk40.size + (zcc Z - zcc Z50) := by rw [hHk40]; exact y46
          have y47 : tot H ≤ tot Hk40 + (zss Z - zss Z50) := by rw [hHk40]; exact y47
          refine W.tight (k := zcc Z - zcc Z50) (n := zss Z - zss Z50) (by first | exact tg9 y46 k41 zlZ50.1 zoZ.1 | omega) (by first | exact tg9 y47 k42 zlZ50.2.1 zoZ.2.1 | omega) ?_
          have hl : lv_has ls 4 [(3, .int 1), (0, .ref (ad 5)), (1, .ref (Z50.fa gf)), (2, .int p1)] := by rw [zlZ50.2.2.2.2 gf hgf]; exact hl
          have t52 : JN V V48 Z Z50 (8 * Int32.toNatClampNeg (V 70 gf) + Int32.toNatClampNeg (V 75 gf)) := t52
          have t53 : JN9 V V48 (8 * Int32.toNatClampNeg (V 70 gf) + Int32.toNatClampNeg (V 75 gf)) (Int32.toNatClampNeg (V 3 15)) p1.toInt (jl gm (8 * o.toNat + nd.toNat)) := t53
          have rp54 : MO V48 Z50 b gf True False True := MO.jl mo hnn (by (first | exact om_c88e7ce0b8a2 gk | omega)) (by (first | exact om_ba873a6da76b gph | omega)) t52
          (try clear cz9); (try clear t19)
          have kp7 : (V 70 gf).toInt.toNat = o.toNat := by first | exact congrArg Int.toNat q70 | omega
          have kp6 : (V 75 gf).toInt.toNat = nd.toNat := by first | exact congrArg Int.toNat q75 | omega
          have jn8 := t53
          rw [ko9, kn9, pa9] at jn8
          obtain ⟨j1, j2, j3, j4, j5, j6, j7⟩ := jn8
          have kl9 := i_clamp (x := V 3 15) rfl (by (first | exact om_eafa9039069c r39.1 | omega))
          obtain ⟨ow2, rnj⟩ := RWn.join (n := Int32.toNatClampNeg (V 3 15)) (v := ga.toInt) rn (show ((o.toNat : Nat) : Int) < gm 0 2 from by omega) (show nd.toNat < 8 from by (first | exact om_dccebbbf934a nd8 r3.1 kp6 | omega)) (by omega) (by omega) j1 j2 j3 j4 j5 j6 (fun c9 k9 h1 h2 h3 h4 h5 => j7 c9 k9 h2 h3 h4 h5)
          clear j5
          have f13 : (V48 3 13).toInt = (V 3 13).toInt := congrArg Int32.toInt (j7 3 13 (by decide) (by decide) (by decide) (by omega))
          have rlj : RWl V48 gB (gfr :: gr) tw9 := RWl.mv rl (fun i9 hi9 c9 h1 h2 => j7 c9 i9 (by omega) (by omega) (by omega) (by omega)) (fun j9 hj9 => (j7 39 j9 (by decide) (by decide) (by decide) (by omega))) (by omega) (j7 3 12 (by decide) (by decide) (by decide) (by omega))
          have rwj9 : RW V48 gB ((mJoin gm o.toNat nd.toNat ga.toInt), ga, gfr :: gr) := ⟨⟨ow2, rnj⟩, ⟨(by rw [(j7 5 9 (by decide) (by decide) (by decide) (by omega))]; show _ = (mJoin gm o.toNat nd.toNat ga.toInt) 0 6; rw [mJn_o (by decide) (by decide)]; exact rh.1), (fun h9 => by have h8 : (mJoin gm o.toNat nd.toNat ga.toInt) 0 6 = 1 := h9; rw [mJn_o (by decide) (by decide)] at h8; rw [(j7 5 10 (by decide) (by decide) (by decide) (by omega))]; exact rh.2.1 h8), (fun h9 => by have h8 : (mJoin gm o.toNat nd.toNat ga.toInt) 0 6 = 2 := h9; rw [mJn_o (by decide) (by decide)] at h8; show _ = (mJoin gm o.toNat nd.toNat ga.toInt) 0 8 ∧ _ = (mJoin gm o.toNat nd.toNat ga.toInt) 0 9; rw [mJn_o (by decide) (by decide), mJn_o (by decide) (by decide), (j7 5 11 (by decide) (by decide) (by decide) (by omega)), (j7 5 12 (by decide) (by decide) (by decide) (by omega))]; exact rh.2.2.1 h8), (by rw [(j7 5 8 (by decide) (by decide) (by decide) (by omega))]; show _ = (mJoin gm o.toNat nd.toNat ga.toInt) 0 4; rw [mJn_o (by decide) (by decide)]; exact rh.2.2.2.1), fun i9 hi9 => by have h8 : (i9 : Int) < (mJoin gm o.toNat nd.toNat ga.toInt) 0 4 := hi9; rw [mJn_o (by decide) (by decide)] at h8; show _ = (mJoin gm o.toNat nd.toNat ga.toInt) 5 i9; rw [mJn_o (by decide) (by decide), (j7 40 i9 (by decide) (by decide) (by decide) (by omega))]; exact rh.2.2.2.2 i9 h8⟩, (by rw [(j7 5 6 (by decide) (by decide) (by decide) (by omega))]; exact rd), tw9, (by rw [(j7 5 7 (by decide) (by decide) (by decide) (by omega))]; exact rt9), rlj⟩
          have rx55 : RW V48 gB (lateJ gB gm ga (V 70 gf).toInt.toNat (V 75 gf).toInt.toNat, ga, gfr :: gr) := by unfold lateJ; rw [kp7, kp6, if_pos ⟨by omega, jd9⟩]; exact rwj9
          refine W.know (fun kr1 kr2 => ?_)
          refine W.widen (k := zcc Z) (n := zss Z) (Nat.sub_le _ _) (Nat.sub_le _ _) ?_
          exact W.vret hx hb hr (fun t ht hW => ⟨⟨(V48, L, Z50), rfl, ⟨hMV48, agV48, rfl, zoZ50, rp54, rx55⟩, ⟨by rw [ht]; exact hP, va_K.moved hW.alike hK, hD⟩, by rw [ht]; exact kr1, by rw [ht]; exact kr2⟩, hS.F ht⟩) hS.2.2 dX5_joinLate_69
      · skip
        have jd9 : jnd gm o.toNat nd.toNat 0 = some x9 := jd_y je9
        have jv9 := jl_dy je9
        have jx9 : 0 ≤ x9 := by rw [← jv9.2]; exact jnn _
        refine lv_iconst (v := (-1)) hx hb dX5_joinLate_49 (by decide) ?_
        refine lv_icmp_ne (tgt := 69) hx hb dX5_joinLate_50 (by decide) (fun c56 => ?_) (fun c56 => ?_)
        · skip
          have f57 : z32.toInt ≠ (-1) := b_neq rfl (by decide) c56
          have me58 : ME V V gf := ME.rf
          have af60 : (V 42 b).toInt ≤ (V 84 gf).toInt ∨ (bdp V b (V 84 gf).toInt.toNat).1 = true := by rw [me58.1.bd, me58.1 42 b (by decide) (by decide)]; exact ft
          have mo59 : MO V Z b gf True False True := MO.ch mo me58 rfl rfl (fun _ => Or.inl (by omega)) (fun x h => FK.k4 (by omega) (by omega) (by omega) af60 (by omega) (fun _ z => z.elim))
          (try clear cz9); (try clear t19)
          have kp7 : (V 70 gf).toInt.toNat = o.toNat := by first | exact congrArg Int.toNat q70 | omega
          have kp6 : (V 75 gf).toInt.toNat = nd.toNat := by first | exact congrArg Int.toNat q75 | omega
          have rx61 : RW V gB (lateJ gB gm ga (V 70 gf).toInt.toNat (V 75 gf).toInt.toNat, ga, gfr :: gr) := by unfold lateJ; rw [kp7, kp6, if_neg (fun h9 => by rw [jd9] at h9; cases h9.2)]; exact rwq
          refine W.know (fun kr1 kr2 => ?_)
          refine W.widen (k := zcc Z) (n := zss Z) (Nat.sub_le _ _) (Nat.sub_le _ _) ?_
          exact W.vret hx hb hr (fun t ht hW => ⟨⟨(V, L, Z), rfl, ⟨hMV, agV, rfl, zoZ, mo59, rx61⟩, ⟨by rw [ht]; exact hP, va_K.moved hW.alike hK, hD⟩, by rw [ht]; exact kr1, by rw [ht]; exact kr2⟩, hS.F ht⟩) hS.2.2 dX5_joinLate_69
        · skip
          have f62 : z32.toInt = (-1) := b_eq rfl (by decide) c56
          exfalso; omega
  · skip
    have hf : FRc V gB gf (Fsum lv o c sc at9 nd tg it v g u p) := by rw [← hfe]; exact hf0
    have tl8 : tw9 = t0 + (Fsum lv o c sc at9 nd tg it v g u p : Fr).2.2.2.length := by rw [← hfe]; exact tl9
    obtain ⟨⟨k67, k68⟩, hoc, ⟨a0, q84⟩, q75, q77, q76, q74, q78, q79⟩ := hf
    obtain ⟨q69, ⟨q70, o0, o1⟩, ⟨q71, c0, c1⟩, ⟨q72, s0, s1⟩⟩ := hoc
    have cn9 : c.toNat < nC gB := by omega
    have kc9 : Int32.toNatClampNeg (V 71 gf) = c.toNat := by have h9 := i_clamp (x := V 71 gf) rfl (by omega); omega
    have ko9 : Int32.toNatClampNeg (V 70 gf) = o.toNat := by have h9 := i_clamp (x := V 70 gf) rfl (by omega); omega
    have tl7 : tw9 = t0 + p.length := tl8
    have hb8 : (V 85 gf).toInt = (t0 : Int) := hbs9 (by rw [hfe]; exact (by decide : (12 : Nat) ≤ 16)) (by rw [hfe]; exact (by decide : (16 : Nat) ≤ 16))
    have hp8 : plC V tw9 p := by have h9 := hpl9; rw [hfe] at h9; exact h9
    exfalso; omega
abbrev r_x_takesAnswer9 (Z : XZ) : Room := { frames := 4, cells := zcc Z, slots := zss Z, locals := 110 }
abbrev q_x_takesAnswer9 (D : va_G) (ks : KS) (ad : Nat → Nat) (kk : Nat → ClassId) (V : Vf) (L : Lf) (Z : XZ) (b : Nat) (gf : Nat) (gB : Bk) (gm : Mm) (ga : Int32) (gfr : Fr) (gr : List Fr) (A : Nat → Prop) : Array Value → State → Outcome → State → Prop := qZi D (fun (r : Int32) (u : Vf × Lf × XZ) => rgd bX u.1 ∧ agr [(3, 15), (5, 6), (5, 7), (5, 9)] [30, 31, 32, 39, 67, 68, 69, 70, 71, 72, 73, 74, 75, 76, 77, 78, 79, 80, 81, 82, 83, 84, 85] V u.1 ∧ u.2.1 = L ∧ ZL Z u.2.2 ∧ (0 ≤ r.toInt ∧ r.toInt ≤ 1) ∧ (Imp (r.toInt = 1) (MO u.1 u.2.2 b gf True True True)) ∧ (Imp (r.toInt = 0) (MJ u.1 u.2.2 b)) ∧ (Imp (r.toInt = 1) ((u.1 5 6).toInt = (V 5 6).toInt ∧ (u.1 67 gf).toInt = 4)) ∧ (Imp (r.toInt = 1) (u.2.2 = Z)) ∧ ((r.toInt = 1 ∧ ∃ fz8, stM gB (gm, ga, gfr :: gr) = (gm, ga, fz8 :: gr) ∧ RW (up2 u.1 68 gf 0) gB (gm, ga, fz8 :: gr)) ∨ (r.toInt = 0 ∧ RW u.1 gB (stM gB (gm, ga, gfr :: gr))))) (fun u => xw ad kk u.1 u.2.1 u.2.2) (fun u => xty kk u.2.2) (fun u => zcc Z - zcc u.2.2) (fun u => zss Z - zss u.2.2) A
set_option maxHeartbeats 4000000 in
set_option maxRecDepth 100000 in
theorem x_takesAnswer9 (l : Launch) (D : va_G) (ks : KS) (sz : Nat) (ad : Nat → Nat) (kk : Nat → ClassId) (V : Vf) (L : Lf) (Z : XZ) (b : Nat) (gf : Nat) (gB : Bk) (gm : Mm) (ga : Int32) (gfr : Fr) (gr : List Fr) (hMV : rgd bX V) (hb2 : b < 2) (hgf : gf < Z.nf) (mo : MO V Z b gf True (¬ NN V b) True) (gd : (gf : Int) + 1 = (V 5 6).toInt) (gk : (V 67 gf).toInt = 4) (gph : (V 68 gf).toInt ≠ 0 ∧ (V 68 gf).toInt ≠ 6) (rwq : RW V gB (gm, ga, gfr :: gr)) (bc : BKc V b gB) (sf : SF gB (gm, ga, gfr :: gr)) (go9 : GOs gB (gm, ga, gfr :: gr)) (sg1 : (V 5 9).toInt = 1)  : Met l yX5_takesAnswer (Cond.code yX5_takesAnswer cX5_takesAnswer 3 (some .boolean) :: GW) (r_x_takesAnswer9 Z) (va_Pc [.ref (ad 5), .ref (Z.fa gf)] (gp D ks (xw ad kk V L Z) (xty kk Z) sz)) (q_x_takesAnswer9 D ks ad kk V L Z  b gf gB gm ga gfr gr (va_A (xw ad kk V L Z) sz)) (zcc Z) (zss Z) (va_A (xw ad kk V L Z) sz) := by
  refine g_met (q_x_takesAnswer9 D ks ad kk V L Z  b gf gB gm ga gfr gr) (by decide) (Nat.le_of_ble_eq_true rfl) ?_
  intro p e s m below meth c A ls H locs hx hb hr hml hown hg hlocks hin hnw hgk hP hK hD hS hA hl
  have hown : s.vm.findClass RX5 = some m.cls := hown
  have hl : lv_has ls 3 [(0, .ref (ad 5)), (1, .ref (Z.fa gf))] := hl
  have hP : va_P D vwCl (xw ad kk V L Z) H := hP
  have hD : va_D A (xw ad kk V L Z) := hD
  have hK : va_K D vwCl (xty kk Z) s := hK
  have agV : agr [(3, 15), (5, 6), (5, 7), (5, 9)] [30, 31, 32, 39, 67, 68, 69, 70, 71, 72, 73, 74, 75, 76, 77, 78, 79, 80, 81, 82, 83, 84, 85] V V := agr.rf
  have zoZ : ZL Z Z := ZL.rf
  refine W.know (fun ka kb => ?_)
  refine W.tight (k := zcc Z - zcc Z) (n := zss Z - zss Z) (by omega) (by omega) ?_
  have r1 : 0 ≤ ((V 5 6)).toInt ∧ ((V 5 6)).toInt ≤ 400 := hMV 5 6
  have r2 : 0 ≤ ((V 5 9)).toInt ∧ ((V 5 9)).toInt ≤ 3 := hMV 5 9
  have kdp := i_clamp (x := V 5 6) rfl (by (first | exact om_c66f1b494bd9 gd | omega))
  have hdn : (gf : Int) + 1 ≤ (Z.nf : Int) := by (first | exact om_29efded833ec hgf | omega)
  have mup := MO.up mo
  have msz := mup.1
  have mbk := mup.2.2.2.1
  obtain ⟨xk, fk⟩ := MO.fk mo
  have r3 : (-1) ≤ ((V 71 gf)).toInt ∧ ((V 71 gf)).toInt ≤ 23 := hMV 71 gf
  have r4 : 0 ≤ ((V 75 gf)).toInt ∧ ((V 75 gf)).toInt ≤ 12 := hMV 75 gf
  have r5 : 0 ≤ ((V 80 gf)).toInt ∧ ((V 80 gf)).toInt ≤ 300 := hMV 80 gf
  have r6 : 0 ≤ ((V 84 gf)).toInt ∧ ((V 84 gf)).toInt ≤ 2147483647 := hMV 84 gf
  have r7 : 0 ≤ ((V 5 8)).toInt ∧ ((V 5 8)).toInt ≤ 300 := hMV 5 8
  have r8 : 0 ≤ ((V 3 13)).toInt ∧ ((V 3 13)).toInt ≤ 300 := hMV 3 13
  have r9 : 0 ≤ ((V 43 (5 * b + 2))).toInt ∧ ((V 43 (5 * b + 2))).toInt ≤ ((xcap (5 * b + 2) : Nat) : Int) := hMV 43 (5 * b + 2)
  have r10 : xcap (5 * b + 2) = 24 := xcap_2
  have r11 : 0 ≤ ((V 41 b)).toInt ∧ ((V 41 b)).toInt ≤ 12 := hMV 41 b
  have r12 : 0 ≤ ((V 42 b)).toInt ∧ ((V 42 b)).toInt ≤ 8200 := hMV 42 b
  have fc := fk.1 (by omega)
  have fo := fk.2.1 (by omega) (by omega)
  have ft := fk.2.2.1 (by omega)
  have fq := fk.2.2.2.1 (by omega)
  have m1 : Int32.toInt (-1) = -1 := by decide
  have rw0 := rwq
  obtain ⟨⟨ow, rn⟩, rh, rd, tw9, rt9, rl⟩ := rw0
  have rn : RWn V ow gB gm := rn
  have rh : RWh V gm ga := rh
  have rd2 : (V 5 6).toInt = ((gr.length + 1 : Nat) : Int) := rd
  have gl9 : gr.length = gf := by (first | exact om_ec03263ced6a gd rd2 | omega)
  have sl9 : gr.length ≤ 394 := by have h9 : gr.length + 1 ≤ 395 := sf.1; (first | exact om_ecdae44fb13c h9 | omega)
  have rh1 : (V 5 9).toInt = gm 0 6 := rh.1
  have ra2 : (V 3 13).toInt = gm 0 2 := rn.1.1.2.2.1
  have rl0 := rl
  obtain ⟨t0, tl9, hf0, hbs9, hpl9, hlr⟩ := rl0
  rw [gl9] at hf0 hbs9
  rcases FRc.k4 hf0 gk with ⟨lv, o, c, sc, me, ps, at9, v, p, hfe⟩ | ⟨lv, o, c, sc, me, ps, at9, v, p, hfe⟩ | ⟨lv, o, c, sc, at9, nd, tg, v, g, p, hfe⟩ | ⟨lv, o, c, sc, at9, nd, tg, v, g, p, hfe⟩ | ⟨lv, o, c, sc, at9, nd, tg, it, v, g, u, p, hfe⟩
  · skip
    have hf : FRc V gB gf (Fwork lv o c sc me ps at9 v p) := by rw [← hfe]; exact hf0
    have tl8 : tw9 = t0 + (Fwork lv o c sc me ps at9 v p : Fr).2.2.2.length := by rw [← hfe]; exact tl9
    obtain ⟨⟨k67, k68⟩, hoc, hps9, ⟨a0, q84⟩, q74⟩ := hf
    obtain ⟨q69, ⟨q70, o0, o1⟩, ⟨q71, c0, c1⟩, ⟨q72, s0, s1⟩⟩ := hoc
    have cn9 : c.toNat < nC gB := by omega
    have kc9 : Int32.toNatClampNeg (V 71 gf) = c.toNat := by have h9 := i_clamp (x := V 71 gf) rfl (by omega); omega
    have ko9 : Int32.toNatClampNeg (V 70 gf) = o.toNat := by have h9 := i_clamp (x := V 70 gf) rfl (by omega); omega
    have tl7 : tw9 = t0 + p.length := tl8
    have hb8 : (V 85 gf).toInt = (t0 : Int) := hbs9 (by rw [hfe]; exact (by decide : (12 : Nat) ≤ 12)) (by rw [hfe]; exact (by decide : (12 : Nat) ≤ 16))
    have hp8 : plC V tw9 p := by have h9 := hpl9; rw [hfe] at h9; exact h9
    exfalso; omega
  · skip
    have hf : FRc V gB gf (Fwait lv o c sc me ps at9 v p) := by rw [← hfe]; exact hf0
    have tl8 : tw9 = t0 + (Fwait lv o c sc me ps at9 v p : Fr).2.2.2.length := by rw [← hfe]; exact tl9
    obtain ⟨⟨k67, k68⟩, hoc, hps9, ⟨a0, q84⟩, q74⟩ := hf
    obtain ⟨q69, ⟨q70, o0, o1⟩, ⟨q71, c0, c1⟩, ⟨q72, s0, s1⟩⟩ := hoc
    have cn9 : c.toNat < nC gB := by omega
    have kc9 : Int32.toNatClampNeg (V 71 gf) = c.toNat := by have h9 := i_clamp (x := V 71 gf) rfl (by omega); omega
    have ko9 : Int32.toNatClampNeg (V 70 gf) = o.toNat := by have h9 := i_clamp (x := V 70 gf) rfl (by omega); omega
    have tl7 : tw9 = t0 + p.length := tl8
    have hb8 : (V 85 gf).toInt = (t0 : Int) := hbs9 (by rw [hfe]; exact (by decide : (12 : Nat) ≤ 13)) (by rw [hfe]; exact (by decide : (13 : Nat) ≤ 16))
    have hp8 : plC V tw9 p := by have h9 := hpl9; rw [hfe] at h9; exact h9
    refine lv_aload_n hx hb dX5_takesAnswer_0 rfl (lv_at hl 1 rfl) ?_
    refine va_getN (D := D) (ci := 4) (v := .int (V 68 gf)) (fs := (xfFrame V gf)) (C := RX4) (T := TX4) (N := 19) hx hb hg inX4 hown hK hP (336 + gf) (xgFrame hgf) rfl 1 (by decide) (hnw.use 1190 n1190 rfl) (fun _ h9 => h9) rfl dX5_takesAnswer_1 ?_
    refine lv_iconst (v := 1) hx hb dX5_takesAnswer_4 (by decide) ?_
    refine lv_icmp_ne (tgt := 18) hx hb dX5_takesAnswer_5 (by decide) (fun c13 => ?_) (fun c13 => ?_)
    · skip
      have f14 : ((V 68 gf)).toInt ≠ 1 := b_neq rfl (by decide) c13
      exfalso; omega
    · skip
      have f15 : ((V 68 gf)).toInt = 1 := b_eq rfl (by decide) c13
      refine lv_aload_n hx hb dX5_takesAnswer_8 rfl (lv_at hl 0 rfl) ?_
      refine lv_aload_n hx hb dX5_takesAnswer_9 rfl (lv_at hl 0 rfl) ?_
      refine va_get (D := D) (ci := 5) (v := .int (V 5 10)) (fs := (xfMachine ad V L Z)) (C := RX5) (T := TX5) (N := 15) hx hb hg inX5 hown hK hP 5 xgMachine rfl 10 (by decide) (hg _ w677) (fun _ h9 => h9) rfl dX5_takesAnswer_10 ?_
      refine gA_void (gA_runV (As := [.int (V 5 10)]) (rest := []) (ci := 5) (q0 := 5) hx hb hml hown hg hP hD hK hS hA hnw hgk (x_put9 l D ks H.size ad kk V L Z (V 5 10) hMV ) w1466 w1468 w72 w171 w1469 rfl xgMachine hdV_yX5_put ⟨Nat.le_of_ble_eq_true rfl, Nat.le_of_ble_eq_true rfl⟩ rfl hl.1 rfl (Nat.le_of_ble_eq_true rfl) dX5_takesAnswer_13 ⟨z0, z0⟩) hP hD hK hS hA (fun u17 H locs w18 hP hD hK hS => ?_)
      obtain ⟨V20, L21⟩ := u17
      obtain ⟨hMV20, ajV20, axL21, t19⟩ := w18
      have axL21 : L = L21 := Eq.symm axL21
      subst axL21
      have hP : va_P D vwCl (xw ad kk V20 L Z) H := hP
      have hD : va_D A (xw ad kk V20 L Z) := hD
      have hMV20 : rgd bX V20 := hMV20
      have ajV20 : agr [(5, 7)] [39] V V20 := ajV20
      have agV20 : agr [(3, 15), (5, 6), (5, 7), (5, 9)] [30, 31, 32, 39, 67, 68, 69, 70, 71, 72, 73, 74, 75, 76, 77, 78, 79, 80, 81, 82, 83, 84, 85] V V20 := agV.tr ajV20 (by decide) (by decide)
      have t19 : (((V 5 7).toInt < 2048) ∧ V20 = (up2 (up2 V 5 7 (V 5 7 + 1)) 39 (Int32.toNatClampNeg (V 5 7)) (V 5 10))) ∨ ((2048 ≤ (V 5 7).toInt) ∧ V20 = V) := t19
      rcases t19 with ⟨hc22, hw23⟩ | ⟨hc24, hw25⟩
      · skip
        have r27 : 0 ≤ ((V 5 7)).toInt ∧ ((V 5 7)).toInt ≤ 2048 := hMV 5 7
        obtain ⟨z26, ez26⟩ : ∃ y : Int32, y = V 5 7 + 1 := ⟨_, rfl⟩
        have hz26 : z26.toInt = (V 5 7).toInt + 1 := i_add ez26 rfl (by decide) (by (first | exact om_988fd9260074 r27.1 r27.2 | omega))
        obtain ⟨V28, hV28⟩ : ∃ z, z = up2 V 5 7 z26 := ⟨_, rfl⟩
        have hV20 : V20 = up2 V28 39 (Int32.toNatClampNeg (V 5 7)) (V 5 10) := by rw [hw23, hV28, ez26]
        refine lv_iconst (v := 1) hx hb dX5_takesAnswer_16 (by decide) ?_
        have pq29 : (V20 5 6).toInt = ((V 5 6)).toInt := congrArg Int32.toInt ((up2_o hV20 (by decide)).trans (up2_k hV28 (by decide)))
        have pq30 : (V20 67 gf).toInt = ((V 67 gf)).toInt := congrArg Int32.toInt ((up2_o hV20 (by decide)).trans (up2_o hV28 (by decide)))
        have me31 : ME V V20 gf := (ME.up (ME.up ME.rf hV28 (Or.inr (by omega))) hV20 (Or.inr (by omega)))
        have pq32 : (V20 68 gf).toInt = ((V 68 gf)).toInt := congrArg Int32.toInt ((up2_o hV20 (by decide)).trans (up2_o hV28 (by decide)))
        have pq33 : (V20 70 gf).toInt = ((V 70 gf)).toInt := congrArg Int32.toInt ((up2_o hV20 (by decide)).trans (up2_o hV28 (by decide)))
        have pq34 : (V20 71 gf).toInt = ((V 71 gf)).toInt := congrArg Int32.toInt ((up2_o hV20 (by decide)).trans (up2_o hV28 (by decide)))
        have pq35 : (V20 75 gf).toInt = ((V 75 gf)).toInt := congrArg Int32.toInt ((up2_o hV20 (by decide)).trans (up2_o hV28 (by decide)))
        have pq36 : (V20 76 gf).toInt = ((V 76 gf)).toInt := congrArg Int32.toInt ((up2_o hV20 (by decide)).trans (up2_o hV28 (by decide)))
        have pq37 : (V20 80 gf).toInt = ((V 80 gf)).toInt := congrArg Int32.toInt ((up2_o hV20 (by decide)).trans (up2_o hV28 (by decide)))
        have pq38 : (V20 84 gf).toInt = ((V 84 gf)).toInt := congrArg Int32.toInt ((up2_o hV20 (by decide)).trans (up2_o hV28 (by decide)))
        have pq39 : (V20 5 8).toInt = ((V 5 8)).toInt := congrArg Int32.toInt ((up2_o hV20 (by decide)).trans (up2_k hV28 (by decide)))
        have pq40 : (V20 5 9).toInt = ((V 5 9)).toInt := congrArg Int32.toInt ((up2_o hV20 (by decide)).trans (up2_k hV28 (by decide)))
        have pq41 : (V20 3 13).toInt = ((V 3 13)).toInt := congrArg Int32.toInt ((up2_o hV20 (by decide)).trans (up2_o hV28 (by decide)))
        have pq42 : (V20 43 (5 * b + 2)).toInt = ((V 43 (5 * b + 2))).toInt := congrArg Int32.toInt ((up2_o hV20 (by decide)).trans (up2_o hV28 (by decide)))
        have pq43 : (V20 42 b).toInt = ((V 42 b)).toInt := congrArg Int32.toInt ((up2_o hV20 (by decide)).trans (up2_o hV28 (by decide)))
        have pq44 : (V20 41 b).toInt = ((V 41 b)).toInt := congrArg Int32.toInt ((up2_o hV20 (by decide)).trans (up2_o hV28 (by decide)))
        have ep47 : V20 84 gf = (V 84 gf) := ((up2_o hV20 (by decide)).trans (up2_o hV28 (by decide)))
        have af46 : (V20 42 b).toInt ≤ (V20 84 gf).toInt ∨ (bdp V20 b (V20 84 gf).toInt.toNat).1 = true := by rw [ep47, me31.1.bd, me31.1 42 b (by decide) (by decide)]; exact ft
        have mo45 : MO V20 Z b gf True True True := MO.ch mo me31 ((up2_o hV20 (by decide)).trans (up2_o hV28 (by decide))) ((up2_o hV20 (by decide)).trans (up2_o hV28 (by decide))) (fun _ => Or.inl (by omega)) (fun x h => FK.k4 (by omega) (by omega) (by omega) af46 (by omega) (fun hph => absurd hph (by omega)))
        have tt9 := RWl.tot rl
        have tt8 := sf.2.1
        have tt7 : totP (gfr :: gr) ≤ 2000 := tt8
        obtain ⟨U9, hU9⟩ : ∃ z, z = up2 V20 68 gf 0 := ⟨_, rfl⟩
        have wr48 : (U9 3 13).toInt = (V 3 13).toInt := congrArg Int32.toInt ((up2_o hU9 (by decide)).trans ((up2_o hV20 (by decide)).trans (up2_o hV28 (by decide))))
        have wr49 : (U9 3 12).toInt = (V 3 12).toInt := congrArg Int32.toInt ((up2_o hU9 (by decide)).trans ((up2_o hV20 (by decide)).trans (up2_o hV28 (by decide))))
        have wr50 : (U9 67 gf).toInt = ((V 67 gf)).toInt := (congrArg Int32.toInt ((up2_o hU9 (by decide)).trans ((up2_o hV20 (by decide)).trans (up2_o hV28 (by decide)))))
        have wr51 : (U9 68 gf).toInt = 0 := (congrArg Int32.toInt (up2_s hU9)).trans (by decide)
        have wr52 : (U9 69 gf).toInt = ((V 69 gf)).toInt := (congrArg Int32.toInt ((up2_o hU9 (by decide)).trans ((up2_o hV20 (by decide)).trans (up2_o hV28 (by decide)))))
        have wr53 : (U9 70 gf).toInt = ((V 70 gf)).toInt := (congrArg Int32.toInt ((up2_o hU9 (by decide)).trans ((up2_o hV20 (by decide)).trans (up2_o hV28 (by decide)))))
        have wr54 : (U9 71 gf).toInt = ((V 71 gf)).toInt := (congrArg Int32.toInt ((up2_o hU9 (by decide)).trans ((up2_o hV20 (by decide)).trans (up2_o hV28 (by decide)))))
        have wr55 : (U9 72 gf).toInt = ((V 72 gf)).toInt := (congrArg Int32.toInt ((up2_o hU9 (by decide)).trans ((up2_o hV20 (by decide)).trans (up2_o hV28 (by decide)))))
        have wr56 : (U9 73 gf).toInt = ((V 73 gf)).toInt := (congrArg Int32.toInt ((up2_o hU9 (by decide)).trans ((up2_o hV20 (by decide)).trans (up2_o hV28 (by decide)))))
        have wr57 : (U9 75 gf).toInt = ((V 75 gf)).toInt := (congrArg Int32.toInt ((up2_o hU9 (by decide)).trans ((up2_o hV20 (by decide)).trans (up2_o hV28 (by decide)))))
        have wr58 : (U9 84 gf).toInt = ((V 84 gf)).toInt := (congrArg Int32.toInt ((up2_o hU9 (by decide)).trans ((up2_o hV20 (by decide)).trans (up2_o hV28 (by decide)))))
        have tx9 : (Int32.toNatClampNeg (V 5 7)) = tw9 := by have h9 := i_clamp (x := V 5 7) rfl (by (first | exact om_eafa9039069c r27.1 | omega)); omega
        have me59 : ME V U9 gf := (ME.up (ME.up (ME.up ME.rf hV28 (Or.inr (by omega))) hV20 (Or.inr (by omega))) hU9 (Or.inl ⟨by decide, by decide, Nat.le_refl _⟩))
        have rl60 : RWl U9 gB gr t0 := RWl.mv hlr (fun i9 hi9 c9 h1 h2 => me59.2.1 c9 i9 h1 h2 (by omega)) (fun j9 hj9 => ((up2_o hU9 (by decide)).trans ((up2_k hV20 (by omega)).trans (up2_o hV28 (by decide))))) (by rw [((up2_o hU9 (by decide)).trans ((up2_o hV20 (by decide)).trans (up2_o hV28 (by decide))))]; exact Int.le_refl _) ((up2_o hU9 (by decide)).trans ((up2_o hV20 (by decide)).trans (up2_o hV28 (by decide))))
        have fo8 : FRc U9 gB gr.length (Fwork lv o c sc me ps at9 v (ga :: p)) := by rw [gl9]; exact ⟨⟨by omega, by omega⟩, ⟨by omega, ⟨by omega, by omega, by omega⟩, ⟨by omega, by omega, by omega⟩, ⟨by omega, by omega, by omega⟩⟩, (fun h9 => by have h8 := hps9 h9; exact ⟨by omega, by omega, by omega, by omega⟩), ⟨a0, by omega⟩, (((up2_o hU9 (by decide)).trans ((up2_o hV20 (by decide)).trans (up2_o hV28 (by decide)))).trans q74)⟩
        have rlu : RWl U9 gB (Fwork lv o c sc me ps at9 v (ga :: p) :: gr) (tw9 + 1) := ⟨t0, (show tw9 + 1 = t0 + (p.length + 1) from by omega), fo8, fun _ _ => (by rw [gl9, ((up2_o hU9 (by decide)).trans ((up2_o hV20 (by decide)).trans (up2_o hV28 (by decide))))]; exact hb8), ⟨tw9, rfl, (by rw [← tx9]; exact ((up2_o hU9 (by decide)).trans (up2_s hV20)).trans (rh.2.1 (show gm 0 6 = 1 from by (first | exact om_e9389ed92ad9 sg1 rh1 | omega)))), plC.mv hp8 (fun j9 hj9 => ((up2_o hU9 (by decide)).trans ((up2_k hV20 (by omega)).trans (up2_o hV28 (by decide)))))⟩, rl60⟩
        have pq62 : (U9 5 6).toInt = ((V 5 6)).toInt := congrArg Int32.toInt ((up2_o hU9 (by decide)).trans ((up2_o hV20 (by decide)).trans (up2_k hV28 (by decide))))
        have pq63 : (U9 5 7).toInt = z26.toInt := congrArg Int32.toInt ((up2_o hU9 (by decide)).trans ((up2_o hV20 (by decide)).trans (up2_s hV28)))
        have pq64 : (U9 5 9).toInt = ((V 5 9)).toInt := congrArg Int32.toInt ((up2_o hU9 (by decide)).trans ((up2_o hV20 (by decide)).trans (up2_k hV28 (by decide))))
        have rz9 : RW U9 gB (gm, ga, Fwork lv o c sc me ps at9 v (ga :: p) :: gr) := RW.id rwq (ESw.ag (show agr [(5, 7)] [39, 68] V U9 from (agr.up (agr.up (agr.up agr.rf hV28 rfl) hV20 rfl) hU9 rfl)) (by decide)) ((up2_o hU9 (by decide)).trans ((up2_o hV20 (by decide)).trans (up2_k hV28 (by decide)))) ((up2_o hU9 (by decide)).trans ((up2_o hV20 (by decide)).trans (up2_k hV28 (by decide)))) ((up2_o hU9 (by decide)).trans ((up2_o hV20 (by decide)).trans (up2_k hV28 (by decide)))) ((up2_o hU9 (by decide)).trans ((up2_o hV20 (by decide)).trans (up2_k hV28 (by decide)))) (show (U9 5 6).toInt = ((gr.length + 1 : Nat) : Int) from by (first | exact om_ccabef0d2974 gd gl9 pq62 | omega)) (show (U9 5 7).toInt = ((tw9 + 1 : Nat) : Int) from by omega) rlu
        have rx61 : ∃ f2, stM gB (gm, ga, gfr :: gr) = (gm, ga, f2 :: gr) ∧ RW (up2 V20 68 gf 0) gB (gm, ga, f2 :: gr) := ⟨_, (by rw [hfe, st_13y (show gm 0 6 = 1 from by (first | exact om_e9389ed92ad9 sg1 rh1 | omega))]), (by rw [← hU9]; exact rz9)⟩
        refine W.know (fun kr1 kr2 => ?_)
        refine W.widen (k := zcc Z) (n := zss Z) (Nat.sub_le _ _) (Nat.sub_le _ _) ?_
        exact W.zret (v := 1) hx hb hr rfl (fun t ht hW => ⟨⟨1, (V20, L, Z), rfl, ⟨hMV20, agV20, rfl, zoZ, (by decide), (Imp.mk (fun _ => mo45)), (Imp.mk (fun hp => absurd hp (by decide))), (Imp.mk (fun _ => (show (V20 5 6).toInt = (V 5 6).toInt ∧ (V20 67 gf).toInt = 4 from by (first | exact om_7c7da5faf5fa gk pq29 pq30 | omega)))), (Imp.mk (fun _ => rfl)), (Or.inl ⟨rfl, rx61⟩)⟩, ⟨by rw [ht]; exact hP, va_K.moved hW.alike hK, hD⟩, by rw [ht]; exact kr1, by rw [ht]; exact kr2⟩, hS.F ht⟩) hS.2.2 dX5_takesAnswer_17
      · skip
        have ajV20 : agr [] [] V V20 := by rw [hw25]; exact agr.rf
        refine lv_iconst (v := 1) hx hb dX5_takesAnswer_16 (by decide) ?_
        have pq65 : (V20 5 6).toInt = ((V 5 6)).toInt := congrArg Int32.toInt (ajV20 5 6 rfl)
        have pq66 : (V20 67 gf).toInt = ((V 67 gf)).toInt := congrArg Int32.toInt (ajV20 67 gf rfl)
        have me67 : ME V V20 gf := (ME.tr ME.rf (ME.ag ajV20 (by decide)))
        have pq68 : (V20 68 gf).toInt = ((V 68 gf)).toInt := congrArg Int32.toInt (ajV20 68 gf rfl)
        have pq69 : (V20 70 gf).toInt = ((V 70 gf)).toInt := congrArg Int32.toInt (ajV20 70 gf rfl)
        have pq70 : (V20 71 gf).toInt = ((V 71 gf)).toInt := congrArg Int32.toInt (ajV20 71 gf rfl)
        have pq71 : (V20 75 gf).toInt = ((V 75 gf)).toInt := congrArg Int32.toInt (ajV20 75 gf rfl)
        have pq72 : (V20 76 gf).toInt = ((V 76 gf)).toInt := congrArg Int32.toInt (ajV20 76 gf rfl)
        have pq73 : (V20 80 gf).toInt = ((V 80 gf)).toInt := congrArg Int32.toInt (ajV20 80 gf rfl)
        have pq74 : (V20 84 gf).toInt = ((V 84 gf)).toInt := congrArg Int32.toInt (ajV20 84 gf rfl)
        have pq75 : (V20 5 8).toInt = ((V 5 8)).toInt := congrArg Int32.toInt (ajV20 5 8 rfl)
        have pq76 : (V20 5 9).toInt = ((V 5 9)).toInt := congrArg Int32.toInt (ajV20 5 9 rfl)
        have pq77 : (V20 3 13).toInt = ((V 3 13)).toInt := congrArg Int32.toInt (ajV20 3 13 rfl)
        have pq78 : (V20 43 (5 * b + 2)).toInt = ((V 43 (5 * b + 2))).toInt := congrArg Int32.toInt (ajV20 43 (5 * b + 2) rfl)
        have pq79 : (V20 42 b).toInt = ((V 42 b)).toInt := congrArg Int32.toInt (ajV20 42 b rfl)
        have pq80 : (V20 41 b).toInt = ((V 41 b)).toInt := congrArg Int32.toInt (ajV20 41 b rfl)
        have af82 : (V20 42 b).toInt ≤ (V20 84 gf).toInt ∨ (bdp V20 b (V20 84 gf).toInt.toNat).1 = true := by rw [(ajV20 84 gf rfl), me67.1.bd, me67.1 42 b (by decide) (by decide)]; exact ft
        have mo81 : MO V20 Z b gf True True True := MO.ch mo me67 (ajV20 67 gf rfl) (ajV20 80 gf rfl) (fun _ => Or.inl (by omega)) (fun x h => FK.k4 (by omega) (by omega) (by omega) af82 (by omega) (fun hph => absurd hph (by omega)))
        have tt9 := RWl.tot rl
        have tt8 := sf.2.1
        have tt7 : totP (gfr :: gr) ≤ 2000 := tt8
        have r83 : 0 ≤ ((V 5 7)).toInt ∧ ((V 5 7)).toInt ≤ 2048 := hMV 5 7
        refine W.know (fun kr1 kr2 => ?_)
        refine W.widen (k := zcc Z) (n := zss Z) (Nat.sub_le _ _) (Nat.sub_le _ _) ?_
        exact W.zret (v := 1) hx hb hr rfl (fun t ht hW => ⟨⟨1, (V20, L, Z), rfl, ⟨hMV20, agV20, rfl, zoZ, (by decide), (Imp.mk (fun _ => mo81)), (Imp.mk (fun hp => absurd hp (by decide))), (Imp.mk (fun _ => (show (V20 5 6).toInt = (V 5 6).toInt ∧ (V20 67 gf).toInt = 4 from by (first | exact om_7c7da5faf5fa gk pq65 pq66 | omega)))), (Imp.mk (fun _ => rfl)), (by exfalso; omega)⟩, ⟨by rw [ht]; exact hP, va_K.moved hW.alike hK, hD⟩, by rw [ht]; exact kr1, by rw [ht]; exact kr2⟩, hS.F ht⟩) hS.2.2 dX5_takesAnswer_17
  · skip
    have hf : FRc V gB gf (Fask lv o c sc at9 nd tg v g p) := by rw [← hfe]; exact hf0
    have tl8 : tw9 = t0 + (Fask lv o c sc at9 nd tg v g p : Fr).2.2.2.length := by rw [← hfe]; exact tl9
    obtain ⟨⟨k67, k68⟩, hoc, ⟨a0, q84⟩, q75, q77, q74, q78⟩ := hf
    obtain ⟨q69, ⟨q70, o0, o1⟩, ⟨q71, c0, c1⟩, ⟨q72, s0, s1⟩⟩ := hoc
    have cn9 : c.toNat < nC gB := by omega
    have kc9 : Int32.toNatClampNeg (V 71 gf) = c.toNat := by have h9 := i_clamp (x := V 71 gf) rfl (by omega); omega
    have ko9 : Int32.toNatClampNeg (V 70 gf) = o.toNat := by have h9 := i_clamp (x := V 70 gf) rfl (by omega); omega
    have tl7 : tw9 = t0 + p.length := tl8
    have hb8 : (V 85 gf).toInt = (t0 : Int) := hbs9 (by rw [hfe]; exact (by decide : (12 : Nat) ≤ 14)) (by rw [hfe]; exact (by decide : (14 : Nat) ≤ 16))
    have hp8 : plC V tw9 p := by have h9 := hpl9; rw [hfe] at h9; exact h9
    exfalso; omega
  · skip
    have hf : FRc V gB gf (Fget lv o c sc at9 nd tg v g p) := by rw [← hfe]; exact hf0
    have tl8 : tw9 = t0 + (Fget lv o c sc at9 nd tg v g p : Fr).2.2.2.length := by rw [← hfe]; exact tl9
    obtain ⟨⟨k67, k68⟩, hoc, ⟨a0, q84⟩, q75, q77, q74, q78⟩ := hf
    obtain ⟨q69, ⟨q70, o0, o1⟩, ⟨q71, c0, c1⟩, ⟨q72, s0, s1⟩⟩ := hoc
    have cn9 : c.toNat < nC gB := by omega
    have kc9 : Int32.toNatClampNeg (V 71 gf) = c.toNat := by have h9 := i_clamp (x := V 71 gf) rfl (by omega); omega
    have ko9 : Int32.toNatClampNeg (V 70 gf) = o.toNat := by have h9 := i_clamp (x := V 70 gf) rfl (by omega); omega
    have tl7 : tw9 = t0 + p.length := tl8
    have hb8 : (V 85 gf).toInt = (t0 : Int) := hbs9 (by rw [hfe]; exact (by decide : (12 : Nat) ≤ 15)) (by rw [hfe]; exact (by decide : (15 : Nat) ≤ 16))
    have hp8 : plC V tw9 p := by have h9 := hpl9; rw [hfe] at h9; exact h9
    have r77 : 0 ≤ (V 77 gf).toInt ∧ (V 77 gf).toInt ≤ 19 := hMV 77 gf
    have sft : SFt gB gm ga (Fget lv o c sc at9 nd tg v g p) := by rw [← hfe]; exact sf.2.2.2.2 gfr gr rfl
    obtain ⟨sl7, jnn, sg7⟩ := sft
    refine lv_aload_n hx hb dX5_takesAnswer_0 rfl (lv_at hl 1 rfl) ?_
    refine va_getN (D := D) (ci := 4) (v := .int (V 68 gf)) (fs := (xfFrame V gf)) (C := RX4) (T := TX4) (N := 19) hx hb hg inX4 hown hK hP (336 + gf) (xgFrame hgf) rfl 1 (by decide) (hnw.use 1190 n1190 rfl) (fun _ h9 => h9) rfl dX5_takesAnswer_1 ?_
    refine lv_iconst (v := 1) hx hb dX5_takesAnswer_4 (by decide) ?_
    refine lv_icmp_ne (tgt := 18) hx hb dX5_takesAnswer_5 (by decide) (fun c84 => ?_) (fun c84 => ?_)
    · skip
      have f85 : ((V 68 gf)).toInt ≠ 1 := b_neq rfl (by decide) c84
      refine lv_aload_n hx hb dX5_takesAnswer_18 rfl (lv_at hl 1 rfl) ?_
      refine va_getN (D := D) (ci := 4) (v := .int (V 68 gf)) (fs := (xfFrame V gf)) (C := RX4) (T := TX4) (N := 19) hx hb hg inX4 hown hK hP (336 + gf) (xgFrame hgf) rfl 1 (by decide) (hnw.use 1190 n1190 rfl) (fun _ h9 => h9) rfl dX5_takesAnswer_19 ?_
      refine lv_bipush (v := 7) hx hb dX5_takesAnswer_22 (by decide) ?_
      refine lv_icmp_ne (tgt := 69) hx hb dX5_takesAnswer_24 (by decide) (fun c86 => ?_) (fun c86 => ?_)
      · skip
        have f87 : ((V 68 gf)).toInt ≠ 7 := b_neq rfl (by decide) c86
        exfalso; omega
      · skip
        have f88 : ((V 68 gf)).toInt = 7 := b_eq rfl (by decide) c86
        have a10 : V 5 10 = ga := rh.2.1 (show gm 0 6 = 1 from by (first | exact om_e9389ed92ad9 sg1 rh1 | omega))
        have sg5 := sg7 (show gm 0 6 = 1 from by (first | exact om_e9389ed92ad9 sg1 rh1 | omega))
        refine lv_aload_n hx hb dX5_takesAnswer_27 rfl (lv_at hl 0 rfl) ?_
        refine lv_aload_n hx hb dX5_takesAnswer_28 rfl (lv_at hl 1 rfl) ?_
        refine lv_aload_n hx hb dX5_takesAnswer_29 rfl (lv_at hl 0 rfl) ?_
        refine va_get (D := D) (ci := 5) (v := .int (V 5 10)) (fs := (xfMachine ad V L Z)) (C := RX5) (T := TX5) (N := 15) hx hb hg inX5 hown hK hP 5 xgMachine rfl 10 (by decide) (hg _ w677) (fun _ h9 => h9) rfl dX5_takesAnswer_30 ?_
        refine W.know (fun k90 k91 => ?_)
        obtain ⟨Hk89, hHk89⟩ : ∃ z, z = H := ⟨_, rfl⟩
        have k90 : Hk89.size ≤ s.heap.size + (zcc Z - zcc Z) := by rw [hHk89]; exact k90
        have k91 : tot Hk89 ≤ tot s.heap + (zss Z - zss Z) := by rw [hHk89]; exact k91
        refine gZ_void (gA_runV (As := [.ref (Z.fa gf), .int (V 5 10)]) (rest := []) (ci := 5) (q0 := 5) hx hb hml hown hg hP hD hK hS hA hnw hgk (x_joinLate9 l D ks H.size ad kk V L Z (V 5 10) (b) (gf) (gB) (gm) (ga) (gfr) (gr) hMV (show b < 2 from by (first | exact om_f940a4667dd6 hb2 | omega)) (show gf < Z.nf from by (first | exact om_8c5722e49bb1 hgf | omega)) mo (show (gf : Int) + 1 = (V 5 6).toInt from by (first | exact om_b7eb86266639 gd | omega)) (show (V 67 gf).toInt = 4 from by (first | exact om_c88e7ce0b8a2 gk | omega)) (show (V 68 gf).toInt = 7 from by (first | exact om_ba873a6da76b f88 | omega)) (show ((V 5 10)).toInt = (V 5 10).toInt from by (first | exact om_4c2c879c4424 | omega)) rwq bc (show (V 5 6).toInt ≤ 395 from by (first | exact om_944563b32814 gd gl9 sl9 | omega)) a10 (show 0 ≤ ga.toInt ∧ ga.toInt < gm 0 2 from by omega) (show (V 75 gf).toInt ≤ 7 from by omega) jnn) w1470 w1472 w73 w171 w1473 rfl xgMachine hdV_yX5_joinLate ⟨Nat.le_of_ble_eq_true rfl, Nat.le_of_ble_eq_true rfl⟩ rfl hl.1 rfl (Nat.le_of_ble_eq_true rfl) dX5_takesAnswer_33 ⟨z1 zoZ.1, z1 zoZ.2.1⟩) hD hS hA (fun u93 H locs w94 hP hD hK hS y95 y96 => ?_)
        obtain ⟨V97, L98, Z99⟩ := u93
        obtain ⟨hMV97, ajV97, axL98, zlZ99, t101, t102⟩ := w94
        have axL98 : L = L98 := Eq.symm axL98
        subst axL98
        have hP : va_P D vwCl (xw ad kk V97 L Z99) H := hP
        have hD : va_D A (xw ad kk V97 L Z99) := hD
        have hK : va_K D vwCl (xty kk Z99) s := hK
        have hMV97 : rgd bX V97 := hMV97
        have ajV97 : agr [(3, 15)] [30, 31, 32] V V97 := ajV97
        have agV97 : agr [(3, 15), (5, 6), (5, 7), (5, 9)] [30, 31, 32, 39, 67, 68, 69, 70, 71, 72, 73, 74, 75, 76, 77, 78, 79, 80, 81, 82, 83, 84, 85] V V97 := agV.tr ajV97 (by decide) (by decide)
        have zlZ99 : ZL Z Z99 := zlZ99
        have zoZ99 : ZL Z Z99 := ZL.tr zoZ zlZ99
        have ziZ99 := zlZ99.1
        have zjZ99 := zlZ99.2.1
        have zkZ99 := zlZ99.2.2.1
        have zmZ99 := zoZ99.1
        have znZ99 := zoZ99.2.1
        have zpZ_Z99 := zoZ.1
        have zqZ_Z99 := zoZ.2.1
        have y95 : H.size ≤ Hk89.size + (zcc Z - zcc Z99) := by rw [hHk89]; exact y95
        have y96 : tot H ≤ tot Hk89 + (zss Z - zss Z99) := by rw [hHk89]; exact y96
        refine W.tight (k := zcc Z - zcc Z99) (n := zss Z - zss Z99) (by first | exact tg9 y95 k90 zlZ99.1 zoZ.1 | omega) (by first | exact tg9 y96 k91 zlZ99.2.1 zoZ.2.1 | omega) ?_
        have hl : lv_has ls 3 [(0, .ref (ad 5)), (1, .ref (Z99.fa gf))] := by rw [zlZ99.2.2.2.2 gf hgf]; exact hl
        have t101 : MO V97 Z99 b gf True False True := t101
        have t102 : RW V97 gB (lateJ gB gm ga (V 70 gf).toInt.toNat (V 75 gf).toInt.toNat, ga, gfr :: gr) := t102
        have mup := MO.up t101
        have msz := mup.1
        have mbk := mup.2.2.2.1
        obtain ⟨xk, fk⟩ := MO.fk t101
        have pq103 : (V97 67 gf).toInt = ((V 67 gf)).toInt := congrArg Int32.toInt (ajV97 67 gf rfl)
        have pq104 : (V97 68 gf).toInt = ((V 68 gf)).toInt := congrArg Int32.toInt (ajV97 68 gf rfl)
        have pq105 : (V97 70 gf).toInt = ((V 70 gf)).toInt := congrArg Int32.toInt (ajV97 70 gf rfl)
        have pq106 : (V97 71 gf).toInt = ((V 71 gf)).toInt := congrArg Int32.toInt (ajV97 71 gf rfl)
        have pq107 : (V97 75 gf).toInt = ((V 75 gf)).toInt := congrArg Int32.toInt (ajV97 75 gf rfl)
        have pq108 : (V97 76 gf).toInt = ((V 76 gf)).toInt := congrArg Int32.toInt (ajV97 76 gf rfl)
        have pq109 : (V97 80 gf).toInt = ((V 80 gf)).toInt := congrArg Int32.toInt (ajV97 80 gf rfl)
        have pq110 : (V97 84 gf).toInt = ((V 84 gf)).toInt := congrArg Int32.toInt (ajV97 84 gf rfl)
        have pq111 : (V97 5 6).toInt = ((V 5 6)).toInt := congrArg Int32.toInt (ajV97 5 6 rfl)
        have pq112 : (V97 5 8).toInt = ((V 5 8)).toInt := congrArg Int32.toInt (ajV97 5 8 rfl)
        have pq113 : (V97 5 9).toInt = ((V 5 9)).toInt := congrArg Int32.toInt (ajV97 5 9 rfl)
        have pq114 : (V97 3 13).toInt = ((V 3 13)).toInt := congrArg Int32.toInt (ajV97 3 13 rfl)
        have pq115 : (V97 43 (5 * b + 2)).toInt = ((V 43 (5 * b + 2))).toInt := congrArg Int32.toInt (ajV97 43 (5 * b + 2) rfl)
        have pq116 : (V97 41 b).toInt = ((V 41 b)).toInt := congrArg Int32.toInt (ajV97 41 b rfl)
        have pq117 : (V97 42 b).toInt = ((V 42 b)).toInt := congrArg Int32.toInt (ajV97 42 b rfl)
        have fc := fk.1 (by omega)
        have fo := fk.2.1 (by omega) (by omega)
        have ft := fk.2.2.1 (by omega)
        have fq := fk.2.2.2.1 (by omega)
        have ftx : (V97 42 b).toInt ≤ (V 84 gf).toInt ∨ (bdp V97 b (V 84 gf).toInt.toNat).1 = true := by have q := ft; rw [(ajV97 84 gf rfl)] at q; exact q
        refine lv_aload_n hx hb dX5_takesAnswer_36 rfl (lv_at hl 1 rfl) ?_
        refine lv_iconst (v := 1) hx hb dX5_takesAnswer_37 (by decide) ?_
        have il118 : gf < Z99.nf := by omega
        refine va_putN (D := D) (ci := 4) (v := .int 1) (ty := tyX4 1) (fs := (xfFrame V97 gf)) (C := RX4) (T := TX4) (N := 19) hx hb hg inX4 tyX4 tyX4_ok nmX4 hown hK hP hD hS (336 + gf) (xgFrame il118) rfl 1 (by decide) (hnw.use 1190 n1190 rfl) (fun _ h9 => h9) rfl (tyX4_ok 1 (by decide)) rfl rfl (Nat.le_of_ble_eq_true rfl) dX5_takesAnswer_38 (fun H locs hP hD hS => ?_)
        obtain ⟨V119, hV119⟩ : ∃ z, z = up2 V97 68 gf 1 := ⟨_, rfl⟩
        have ew120 : (xw ad kk V97 L Z99).set (336 + gf) ((Z99.fa gf), .inr (4, (xfFrame V97 gf).set 1 (.int 1))) = xw ad kk V119 L Z99 := by rw [hV119]; exact xpFrame_phase il118
        have hP : va_P D vwCl (xw ad kk V119 L Z99) H := by rw [← ew120]; exact hP
        have hD : va_D A (xw ad kk V119 L Z99) := by rw [← ew120]; exact hD
        have hMV119 : rgd bX V119 := hMV97.put hV119 (i_full _)
        have agV119 : agr [(3, 15), (5, 6), (5, 7), (5, 9)] [30, 31, 32, 39, 67, 68, 69, 70, 71, 72, 73, 74, 75, 76, 77, 78, 79, 80, 81, 82, 83, 84, 85] V V119 := agV97.up hV119 rfl
        refine lv_aload_n hx hb dX5_takesAnswer_41 rfl (lv_at hl 0 rfl) ?_
        refine lv_aload_n hx hb dX5_takesAnswer_42 rfl (lv_at hl 0 rfl) ?_
        refine va_get (D := D) (ci := 5) (v := .int (V119 5 10)) (fs := (xfMachine ad V119 L Z99)) (C := RX5) (T := TX5) (N := 15) hx hb hg inX5 hown hK hP 5 xgMachine rfl 10 (by decide) (hg _ w677) (fun _ h9 => h9) rfl dX5_takesAnswer_43 ?_
        refine g_top (v := (V 5 10)) ((up2_o hV119 (by decide)).trans (ajV97 5 10 rfl)) ?_
        refine lv_aload_n hx hb dX5_takesAnswer_46 rfl (lv_at hl 1 rfl) ?_
        refine va_getN (D := D) (ci := 4) (v := .int (V119 72 gf)) (fs := (xfFrame V119 gf)) (C := RX4) (T := TX4) (N := 19) hx hb hg inX4 hown hK hP (336 + gf) (xgFrame il118) rfl 5 (by decide) (hnw.use 1194 n1194 rfl) (fun _ h9 => h9) rfl dX5_takesAnswer_47 ?_
        refine g_top (v := (V 72 gf)) ((up2_o hV119 (by decide)).trans (ajV97 72 gf rfl)) ?_
        have r121 : 0 ≤ ((V 72 gf)).toInt ∧ ((V 72 gf)).toInt ≤ 39 := hMV 72 gf
        refine lv_aload_n hx hb dX5_takesAnswer_50 rfl (lv_at hl 1 rfl) ?_
        refine va_getN (D := D) (ci := 4) (v := .int (V119 77 gf)) (fs := (xfFrame V119 gf)) (C := RX4) (T := TX4) (N := 19) hx hb hg inX4 hown hK hP (336 + gf) (xgFrame il118) rfl 10 (by decide) (hnw.use 1199 n1199 rfl) (fun _ h9 => h9) rfl dX5_takesAnswer_51 ?_
        refine g_top (v := (V 77 gf)) ((up2_o hV119 (by decide)).trans (ajV97 77 gf rfl)) ?_
        have r122 : 0 ≤ ((V 77 gf)).toInt ∧ ((V 77 gf)).toInt ≤ 19 := hMV 77 gf
        refine lv_aload_n hx hb dX5_takesAnswer_54 rfl (lv_at hl 1 rfl) ?_
        refine va_getN (D := D) (ci := 4) (v := .int (V119 78 gf)) (fs := (xfFrame V119 gf)) (C := RX4) (T := TX4) (N := 19) hx hb hg inX4 hown hK hP (336 + gf) (xgFrame il118) rfl 11 (by decide) (hnw.use 1200 n1200 rfl) (fun _ h9 => h9) rfl dX5_takesAnswer_55 ?_
        refine g_top (v := (V 78 gf)) ((up2_o hV119 (by decide)).trans (ajV97 78 gf rfl)) ?_
        refine lv_aload_n hx hb dX5_takesAnswer_58 rfl (lv_at hl 1 rfl) ?_
        refine va_getN (D := D) (ci := 4) (v := .int (V119 69 gf)) (fs := (xfFrame V119 gf)) (C := RX4) (T := TX4) (N := 19) hx hb hg inX4 hown hK hP (336 + gf) (xgFrame il118) rfl 2 (by decide) (hnw.use 1191 n1191 rfl) (fun _ h9 => h9) rfl dX5_takesAnswer_59 ?_
        refine g_top (v := (V 69 gf)) ((up2_o hV119 (by decide)).trans (ajV97 69 gf rfl)) ?_
        refine lv_iconst (v := 1) hx hb dX5_takesAnswer_62 (by decide) ?_
        refine lv_iadd hx hb dX5_takesAnswer_63 ?_
        have r123 := i_full (V 69 gf)
        refine lv_topi (fun z124 ez124 => ?_)
        have hz124 : Imp (-2147483648 ≤ ((V 69 gf)).toInt + 1 ∧ ((V 69 gf)).toInt + 1 ≤ 2147483647) (z124.toInt = ((V 69 gf)).toInt + 1) := Imp.mk (fun hp => i_add ez124 rfl (by decide) hp)
        have me125 : ME V97 V119 gf := (ME.up ME.rf hV119 (Or.inl ⟨by decide, by decide, Nat.le_refl _⟩))
        have pq126 : (V119 67 gf).toInt = ((V 67 gf)).toInt := congrArg Int32.toInt ((up2_o hV119 (by decide)).trans (ajV97 67 gf rfl))
        have pq127 : (V119 68 gf).toInt = 1 := (congrArg Int32.toInt (up2_s hV119)).trans (by decide)
        have pq128 : (V119 70 gf).toInt = ((V 70 gf)).toInt := congrArg Int32.toInt ((up2_o hV119 (by decide)).trans (ajV97 70 gf rfl))
        have pq129 : (V119 71 gf).toInt = ((V 71 gf)).toInt := congrArg Int32.toInt ((up2_o hV119 (by decide)).trans (ajV97 71 gf rfl))
        have pq130 : (V119 75 gf).toInt = ((V 75 gf)).toInt := congrArg Int32.toInt ((up2_o hV119 (by decide)).trans (ajV97 75 gf rfl))
        have pq131 : (V119 76 gf).toInt = ((V 76 gf)).toInt := congrArg Int32.toInt ((up2_o hV119 (by decide)).trans (ajV97 76 gf rfl))
        have pq132 : (V119 80 gf).toInt = ((V 80 gf)).toInt := congrArg Int32.toInt ((up2_o hV119 (by decide)).trans (ajV97 80 gf rfl))
        have pq133 : (V119 84 gf).toInt = ((V 84 gf)).toInt := congrArg Int32.toInt ((up2_o hV119 (by decide)).trans (ajV97 84 gf rfl))
        have pq134 : (V119 5 6).toInt = ((V 5 6)).toInt := congrArg Int32.toInt ((up2_o hV119 (by decide)).trans (ajV97 5 6 rfl))
        have pq135 : (V119 5 8).toInt = ((V 5 8)).toInt := congrArg Int32.toInt ((up2_o hV119 (by decide)).trans (ajV97 5 8 rfl))
        have pq136 : (V119 5 9).toInt = ((V 5 9)).toInt := congrArg Int32.toInt ((up2_o hV119 (by decide)).trans (ajV97 5 9 rfl))
        have pq137 : (V119 3 13).toInt = ((V 3 13)).toInt := congrArg Int32.toInt ((up2_o hV119 (by decide)).trans (ajV97 3 13 rfl))
        have pq138 : (V119 43 (5 * b + 2)).toInt = ((V 43 (5 * b + 2))).toInt := congrArg Int32.toInt ((up2_o hV119 (by decide)).trans (ajV97 43 (5 * b + 2) rfl))
        have pq139 : (V119 42 b).toInt = ((V 42 b)).toInt := congrArg Int32.toInt ((up2_o hV119 (by decide)).trans (ajV97 42 b rfl))
        have pq140 : (V119 41 b).toInt = ((V 41 b)).toInt := congrArg Int32.toInt ((up2_o hV119 (by decide)).trans (ajV97 41 b rfl))
        have ep143 : V119 84 gf = (V 84 gf) := ((up2_o hV119 (by decide)).trans (ajV97 84 gf rfl))
        have af142 : (V119 42 b).toInt ≤ (V119 84 gf).toInt ∨ (bdp V119 b (V119 84 gf).toInt.toNat).1 = true := by rw [ep143, me125.1.bd, me125.1 42 b (by decide) (by decide)]; exact ftx
        have mo141 : MO V119 Z99 b gf True True True := MO.ch t101 me125 (up2_o hV119 (by decide)) (up2_o hV119 (by decide)) (fun _ => Or.inl (by omega)) (fun x h => FK.k4 (by first | omega | ((try (have i_hz124 := Imp.go hz124 (by omega))); omega)) (by first | omega | ((try (have i_hz124 := Imp.go hz124 (by omega))); omega)) (by first | omega | ((try (have i_hz124 := Imp.go hz124 (by omega))); omega)) af142 (by first | omega | ((try (have i_hz124 := Imp.go hz124 (by omega))); omega)) (fun hph => absurd hph (by omega)))
        have mt144 : MT V119 Z99 b := MO.mt mo141 (by (first | exact om_c09d41618ed8 il118 | omega)) (by (first | exact om_82fa09255765 gd pq134 | omega))
        refine W.know (fun k146 k147 => ?_)
        obtain ⟨Hk145, hHk145⟩ : ∃ z, z = H := ⟨_, rfl⟩
        have k146 : Hk145.size ≤ s.heap.size + (zcc Z - zcc Z99) := by rw [hHk145]; exact k146
        have k147 : tot Hk145 ≤ tot s.heap + (zss Z - zss Z99) := by rw [hHk145]; exact k147
        refine gZ_void (gA_runV (As := [.int (V 5 10), .int (V 72 gf), .int (V 77 gf), .int (V 78 gf), .int z124]) (rest := []) (ci := 5) (q0 := 5) hx hb hml hown hg hP hD hK hS hA hnw hgk (x_pushCall9 l D ks H.size ad kk V119 L Z99 (V 5 10) (V 72 gf) (V 77 gf) (V 78 gf) z124 (b) hMV119 (by first | exact om_13ba01c174fe r121.1 r121.2 | first | omega | ((try (have i_hz124 := Imp.go hz124 (by omega))); omega)) (by first | exact om_0916ac166aa8 r77.1 r77.2 | first | omega | ((try (have i_hz124 := Imp.go hz124 (by omega))); omega)) (show b < 2 from by first | exact om_f940a4667dd6 hb2 | first | omega | ((try (have i_hz124 := Imp.go hz124 (by omega))); omega)) mt144) w1454 w1455 w1456 w171 w1457 rfl xgMachine hdV_yX5_pushCall ⟨Nat.le_of_ble_eq_true rfl, Nat.le_of_ble_eq_true rfl⟩ rfl hl.1 rfl (Nat.le_of_ble_eq_true rfl) dX5_takesAnswer_64 ⟨z1 zoZ99.1, z1 zoZ99.2.1⟩) hD hS hA (fun u149 H locs w150 hP hD hK hS y151 y152 => ?_)
        obtain ⟨V153, L154, Z155⟩ := u149
        obtain ⟨hMV153, ajV153, axL154, zlZ155, t157, t158⟩ := w150
        have axL154 : L = L154 := Eq.symm axL154
        subst axL154
        have hP : va_P D vwCl (xw ad kk V153 L Z155) H := hP
        have hD : va_D A (xw ad kk V153 L Z155) := hD
        have hK : va_K D vwCl (xty kk Z155) s := hK
        have hMV153 : rgd bX V153 := hMV153
        have ajV153 : agr [(5, 6), (5, 9)] [67, 68, 69, 70, 71, 72, 73, 74, 75, 76, 77, 78, 79, 80, 81, 82, 83, 84, 85] V119 V153 := ajV153
        have agV153 : agr [(3, 15), (5, 6), (5, 7), (5, 9)] [30, 31, 32, 39, 67, 68, 69, 70, 71, 72, 73, 74, 75, 76, 77, 78, 79, 80, 81, 82, 83, 84, 85] V V153 := agV119.tr ajV153 (by decide) (by decide)
        have zlZ155 : ZL Z99 Z155 := zlZ155
        have zoZ155 : ZL Z Z155 := ZL.tr zoZ99 zlZ155
        have ziZ155 := zlZ155.1
        have zjZ155 := zlZ155.2.1
        have zkZ155 := zlZ155.2.2.1
        have zmZ155 := zoZ155.1
        have znZ155 := zoZ155.2.1
        have zpZ99_Z155 := zoZ99.1
        have zqZ99_Z155 := zoZ99.2.1
        have y151 : H.size ≤ Hk145.size + (zcc Z99 - zcc Z155) := by rw [hHk145]; exact y151
        have y152 : tot H ≤ tot Hk145 + (zss Z99 - zss Z155) := by rw [hHk145]; exact y152
        refine W.tight (k := zcc Z - zcc Z155) (n := zss Z - zss Z155) (by first | exact tg9 y151 k146 zlZ155.1 zoZ99.1 | omega) (by first | exact tg9 y152 k147 zlZ155.2.1 zoZ99.2.1 | omega) ?_
        have hl : lv_has ls 3 [(0, .ref (ad 5)), (1, .ref (Z155.fa gf))] := by rw [zlZ155.2.2.2.2 gf il118]; exact hl
        have t157 : MJ V153 Z155 b := t157
        have t158 : Imp ((V119 5 6).toInt < 400) (PCa V119 V153 ((V119 5 6).toInt.toNat) (V 5 10) (V 72 gf) (V 77 gf) (V 78 gf) z124) := t158
        refine lv_iconst (v := 0) hx hb dX5_takesAnswer_67 (by decide) ?_
        have r159 : 0 ≤ ((V153 5 6)).toInt ∧ ((V153 5 6)).toInt ≤ 400 := hMV153 5 6
        have tt9 := RWl.tot rl
        have tt8 := sf.2.1
        have tt7 : totP (gfr :: gr) ≤ 2000 := tt8
        have kp7 : (V 70 gf).toInt.toNat = o.toNat := by first | exact congrArg Int.toNat q70 | omega
        have kp6 : (V 75 gf).toInt.toNat = nd.toNat := by first | exact congrArg Int.toNat q75 | omega
        have rwl9 : RW V97 gB (lateJ gB gm ga o.toNat nd.toNat, ga, gfr :: gr) := by have h9 := t102; rw [kp7, kp6] at h9; exact h9
        have a10 : V 5 10 = ga := (rh.2.1 (show gm 0 6 = 1 from by (first | exact om_e9389ed92ad9 sg1 rh1 | omega)))
        have pa9 : (V 5 10).toInt = ga.toInt := by rw [a10]
        have sg6 := sg7 (show gm 0 6 = 1 from by (first | exact om_e9389ed92ad9 sg1 rh1 | omega))
        have pq160 : (V97 5 7).toInt = ((V 5 7)).toInt := congrArg Int32.toInt (ajV97 5 7 rfl)
        have r161 : 0 ≤ ((V 5 7)).toInt ∧ ((V 5 7)).toInt ≤ 2048 := hMV 5 7
        obtain ⟨_, _, _, t7, rt7, rlj⟩ := id rwl9
        have rlj : RWl V97 gB (gfr :: gr) t7 := rlj
        obtain ⟨tu8, ti7, _, _, _, hlj⟩ := rlj
        have et8 : tu8 = t0 := by omega
        rw [et8] at hlj
        have pw := Imp.go t158 (by (first | exact om_f2444a3e49ba gd gl9 sl9 pq134 | omega))
        have pi9 : (V119 5 6).toInt.toNat = gr.length + 1 := by (first | exact om_e14d89dbab7d gd gl9 pq134 | omega)
        rw [pi9] at pw
        obtain ⟨⟨pd1, pd2, pke⟩, ⟨pk1, pk2⟩, p69, p70, p72, p73, p74, pc1, pc2, pc3⟩ := pw
        have wr162 := congrArg Int32.toInt p69
        have wr163 := congrArg Int32.toInt p70
        have wr164 := congrArg Int32.toInt p72
        have wr165 := congrArg Int32.toInt p73
        have lz9 : z124.toInt = (V 69 gf).toInt + 1 := i_add ez124 rfl (by decide) (by omega)
        have wr166 : (V153 3 13).toInt = (V 3 13).toInt := congrArg Int32.toInt ((ajV153 3 13 rfl).trans ((up2_o hV119 (by decide)).trans (ajV97 3 13 rfl)))
        have wr167 : (V153 3 12).toInt = (V 3 12).toInt := congrArg Int32.toInt ((ajV153 3 12 rfl).trans ((up2_o hV119 (by decide)).trans (ajV97 3 12 rfl)))
        have wr168 : (V153 67 gf).toInt = ((V 67 gf)).toInt := (congrArg Int32.toInt ((pke gf (by omega) 67 (by decide) (by decide)).trans ((up2_o hV119 (by decide)).trans (ajV97 67 gf rfl))))
        have wr169 : (V153 68 gf).toInt = 1 := (congrArg Int32.toInt ((pke gf (by omega) 68 (by decide) (by decide)).trans (up2_s hV119))).trans (by decide)
        have wr170 : (V153 69 gf).toInt = ((V 69 gf)).toInt := (congrArg Int32.toInt ((pke gf (by omega) 69 (by decide) (by decide)).trans ((up2_o hV119 (by decide)).trans (ajV97 69 gf rfl))))
        have wr171 : (V153 70 gf).toInt = ((V 70 gf)).toInt := (congrArg Int32.toInt ((pke gf (by omega) 70 (by decide) (by decide)).trans ((up2_o hV119 (by decide)).trans (ajV97 70 gf rfl))))
        have wr172 : (V153 71 gf).toInt = ((V 71 gf)).toInt := (congrArg Int32.toInt ((pke gf (by omega) 71 (by decide) (by decide)).trans ((up2_o hV119 (by decide)).trans (ajV97 71 gf rfl))))
        have wr173 : (V153 72 gf).toInt = ((V 72 gf)).toInt := (congrArg Int32.toInt ((pke gf (by omega) 72 (by decide) (by decide)).trans ((up2_o hV119 (by decide)).trans (ajV97 72 gf rfl))))
        have wr174 : (V153 84 gf).toInt = ((V 84 gf)).toInt := (congrArg Int32.toInt ((pke gf (by omega) 84 (by decide) (by decide)).trans ((up2_o hV119 (by decide)).trans (ajV97 84 gf rfl))))
        have me175 : ME V97 V119 gf := (ME.up ME.rf hV119 (Or.inl ⟨by decide, by decide, Nat.le_refl _⟩))
        have rl176 : RWl V153 gB gr t0 := RWl.mv hlj (fun i9 hi9 c9 h1 h2 => ((pke i9 (by omega) c9 h1 h2)).trans (me175.2.1 c9 i9 h1 h2 (by omega))) (fun j9 hj9 => ((ajV153 39 j9 rfl).trans (up2_o hV119 (by decide)))) (by rw [((ajV153 3 13 rfl).trans (up2_o hV119 (by decide)))]; exact Int.le_refl _) ((ajV153 3 12 rfl).trans (up2_o hV119 (by decide)))
        have fo8 : FRc V153 gB gr.length (Fwait lv o c sc 0 0 at9 v p) := by rw [gl9]; exact ⟨⟨by omega, by omega⟩, ⟨by omega, ⟨by omega, by omega, by omega⟩, ⟨by omega, by omega, by omega⟩, ⟨by omega, by omega, by omega⟩⟩, (fun h9 => absurd h9 (by decide)), ⟨a0, by omega⟩, ((pke gf (by omega) 74 (by decide) (by decide)).trans (((up2_o hV119 (by decide)).trans (ajV97 74 gf rfl)).trans q74))⟩
        have rl177 : RWl V153 gB (Fwait lv o c sc 0 0 at9 v p :: gr) tw9 := ⟨t0, tl7, fo8, fun _ _ => (by rw [gl9, ((pke gf (by omega) 85 (by decide) (by decide)).trans ((up2_o hV119 (by decide)).trans (ajV97 85 gf rfl)))]; exact hb8), plC.mv hp8 (fun j9 _ => (show agr [(3, 15), (5, 6), (5, 9)] [30, 31, 32, 67, 68, 69, 70, 71, 72, 73, 74, 75, 76, 77, 78, 79, 80, 81, 82, 83, 84, 85] V V153 from (agr.tr (agr.up (agr.tr agr.rf ajV97 (by decide) (by decide)) hV119 rfl) ajV153 (by decide) (by decide))) 39 j9 rfl), rl176⟩
        have b13 : (V119 3 13).toInt = (V 3 13).toInt := congrArg Int32.toInt (((up2_o hV119 (by decide)).trans (ajV97 3 13 rfl)))
        have n249 := bc.2.2.2.1.2.1
        have c71 : (0 ≤ ga.toInt → (V153 71 (gr.length + 1)).toInt = (gm 1 ga.toInt.toNat)) ∧ (0 ≤ (V153 71 (gr.length + 1)).toInt ∧ (V153 71 (gr.length + 1)).toInt < ((nC gB : Nat) : Int)) := by
          by_cases h9 : 0 ≤ ga.toInt
          · have h8 := pc1 ⟨by omega, by omega⟩
            have h7 := rn.2.1 ga.toInt.toNat (by omega)
            have h6 : Int32.toNatClampNeg (V 5 10) = ga.toInt.toNat := by have h5 := i_clamp (x := (V 5 10)) rfl (by omega); (first | exact om_7fa990895e35 pa9 h5 | omega)
            rw [h6, ((up2_o hV119 (by decide)).trans (ajV97 26 ga.toInt.toNat rfl))] at h8
            have h5 := congrArg Int32.toInt h8
            have h4 := h7.1.1
            have h3 := h7.2.2.1
            exact ⟨fun _ => by omega, by omega, by omega⟩
          · have h8 := pc2 (fun h7 => h9 (by omega))
            exact ⟨fun h7 => absurd h7 h9, by omega, by omega⟩
        have ft9 : FRc V153 gB (gr.length + 1) (Fcall0 (lv + 1) ga.toInt (gm 1 ga.toInt.toNat) sc tg g) := ⟨⟨pk1, pk2⟩, by omega, by omega, fun h9 => ⟨by omega, c71.1 h9⟩, c71.2, ⟨by omega, by omega, by omega⟩, ⟨by omega, by omega, by omega⟩, p74.trans q78⟩
        have rz9 : RW V153 gB (mU (lateJ gB gm ga o.toNat nd.toNat) 0 6 0, ga, Fcall0 (lv + 1) ga.toInt (gm 1 ga.toInt.toNat) sc tg g :: Fwait lv o c sc 0 0 at9 v p :: gr) := RW.sgn rwl9 (ESw.ag (show agr [(5, 6), (5, 9)] [67, 68, 69, 70, 71, 72, 73, 74, 75, 76, 77, 78, 79, 80, 81, 82, 83, 84, 85] V97 V153 from (agr.tr (agr.up agr.rf hV119 rfl) ajV153 (by decide) (by decide))) (by decide)) pd2 (fun h9 => absurd h9 (by decide)) (fun h9 => absurd h9 (by decide)) (show (V153 5 6).toInt = ((gr.length + 1 + 1 : Nat) : Int) from by omega) (show (V153 5 7).toInt = ((tw9 : Nat) : Int) from by rw [((ajV153 5 7 rfl).trans ((up2_o hV119 (by decide)).trans (ajV97 5 7 rfl)))]; exact rt9) (RWl.push rl177 ft9 rfl (np9 rfl))
        have rx178 : RW V153 gB (stM gB (gm, ga, gfr :: gr)) := by rw [hfe, st_15y (show gm 0 6 = 1 from by (first | exact om_e9389ed92ad9 sg1 rh1 | omega))]; exact rz9
        refine W.know (fun kr1 kr2 => ?_)
        refine W.widen (k := zcc Z) (n := zss Z) (Nat.sub_le _ _) (Nat.sub_le _ _) ?_
        exact W.zret (v := 0) hx hb hr rfl (fun t ht hW => ⟨⟨0, (V153, L, Z155), rfl, ⟨hMV153, agV153, rfl, zoZ155, (by decide), (Imp.mk (fun hp => absurd hp (by decide))), (Imp.mk (fun _ => t157)), (Imp.mk (fun hp => absurd hp (by decide))), (Imp.mk (fun hp => absurd hp (by decide))), (Or.inr ⟨rfl, rx178⟩)⟩, ⟨by rw [ht]; exact hP, va_K.moved hW.alike hK, hD⟩, by rw [ht]; exact kr1, by rw [ht]; exact kr2⟩, hS.F ht⟩) hS.2.2 dX5_takesAnswer_68
    · skip
      have f179 : ((V 68 gf)).toInt = 1 := b_eq rfl (by decide) c84
      exfalso; omega
  · skip
    have hf : FRc V gB gf (Fsum lv o c sc at9 nd tg it v g u p) := by rw [← hfe]; exact hf0
    have tl8 : tw9 = t0 + (Fsum lv o c sc at9 nd tg it v g u p : Fr).2.2.2.length := by rw [← hfe]; exact tl9
    obtain ⟨⟨k67, k68⟩, hoc, ⟨a0, q84⟩, q75, q77, q76, q74, q78, q79⟩ := hf
    obtain ⟨q69, ⟨q70, o0, o1⟩, ⟨q71, c0, c1⟩, ⟨q72, s0, s1⟩⟩ := hoc
    have cn9 : c.toNat < nC gB := by omega
    have kc9 : Int32.toNatClampNeg (V 71 gf) = c.toNat := by have h9 := i_clamp (x := V 71 gf) rfl (by omega); omega
    have ko9 : Int32.toNatClampNeg (V 70 gf) = o.toNat := by have h9 := i_clamp (x := V 70 gf) rfl (by omega); omega
    have tl7 : tw9 = t0 + p.length := tl8
    have hb8 : (V 85 gf).toInt = (t0 : Int) := hbs9 (by rw [hfe]; exact (by decide : (12 : Nat) ≤ 16)) (by rw [hfe]; exact (by decide : (16 : Nat) ≤ 16))
    have hp8 : plC V tw9 p := by have h9 := hpl9; rw [hfe] at h9; exact h9
    have r77 : 0 ≤ (V 77 gf).toInt ∧ (V 77 gf).toInt ≤ 19 := hMV 77 gf
    have sft : SFt gB gm ga (Fsum lv o c sc at9 nd tg it v g u p) := by rw [← hfe]; exact sf.2.2.2.2 gfr gr rfl
    obtain ⟨sl7, n07, i07, j0, j24, jnn⟩ := sft
    have kn9 : Int32.toNatClampNeg (V 75 gf) = nd.toNat := by have h9 := i_clamp (x := V 75 gf) rfl (by (first | exact om_eafa9039069c r4.1 | omega)); omega
    refine lv_aload_n hx hb dX5_takesAnswer_0 rfl (lv_at hl 1 rfl) ?_
    refine va_getN (D := D) (ci := 4) (v := .int (V 68 gf)) (fs := (xfFrame V gf)) (C := RX4) (T := TX4) (N := 19) hx hb hg inX4 hown hK hP (336 + gf) (xgFrame hgf) rfl 1 (by decide) (hnw.use 1190 n1190 rfl) (fun _ h9 => h9) rfl dX5_takesAnswer_1 ?_
    refine lv_iconst (v := 1) hx hb dX5_takesAnswer_4 (by decide) ?_
    refine lv_icmp_ne (tgt := 18) hx hb dX5_takesAnswer_5 (by decide) (fun c180 => ?_) (fun c180 => ?_)
    · skip
      have f181 : ((V 68 gf)).toInt ≠ 1 := b_neq rfl (by decide) c180
      refine lv_aload_n hx hb dX5_takesAnswer_18 rfl (lv_at hl 1 rfl) ?_
      refine va_getN (D := D) (ci := 4) (v := .int (V 68 gf)) (fs := (xfFrame V gf)) (C := RX4) (T := TX4) (N := 19) hx hb hg inX4 hown hK hP (336 + gf) (xgFrame hgf) rfl 1 (by decide) (hnw.use 1190 n1190 rfl) (fun _ h9 => h9) rfl dX5_takesAnswer_19 ?_
      refine lv_bipush (v := 7) hx hb dX5_takesAnswer_22 (by decide) ?_
      refine lv_icmp_ne (tgt := 69) hx hb dX5_takesAnswer_24 (by decide) (fun c182 => ?_) (fun c182 => ?_)
      · skip
        have f183 : ((V 68 gf)).toInt ≠ 7 := b_neq rfl (by decide) c182
        refine lv_aload_n hx hb dX5_takesAnswer_69 rfl (lv_at hl 1 rfl) ?_
        refine lv_dup hx hb dX5_takesAnswer_70 rfl ?_
        refine va_getN (D := D) (ci := 4) (v := .int (V 79 gf)) (fs := (xfFrame V gf)) (C := RX4) (T := TX4) (N := 19) hx hb hg inX4 hown hK hP (336 + gf) (xgFrame hgf) rfl 12 (by decide) (hnw.use 1201 n1201 rfl) (fun _ h9 => h9) rfl dX5_takesAnswer_71 ?_
        refine lv_aload_n hx hb dX5_takesAnswer_74 rfl (lv_at hl 0 rfl) ?_
        refine va_get (D := D) (ci := 5) (v := .int (V 5 10)) (fs := (xfMachine ad V L Z)) (C := RX5) (T := TX5) (N := 15) hx hb hg inX5 hown hK hP 5 xgMachine rfl 10 (by decide) (hg _ w677) (fun _ h9 => h9) rfl dX5_takesAnswer_75 ?_
        refine lv_iadd hx hb dX5_takesAnswer_78 ?_
        have r184 := i_full (V 79 gf)
        have r185 := i_full (V 5 10)
        refine lv_topi (fun z186 ez186 => ?_)
        have hz186 : Imp (-2147483648 ≤ ((V 79 gf)).toInt + ((V 5 10)).toInt ∧ ((V 79 gf)).toInt + ((V 5 10)).toInt ≤ 2147483647) (z186.toInt = ((V 79 gf)).toInt + ((V 5 10)).toInt) := Imp.mk (fun hp => i_add ez186 rfl rfl hp)
        refine va_putN (D := D) (ci := 4) (v := .int z186) (ty := tyX4 12) (fs := (xfFrame V gf)) (C := RX4) (T := TX4) (N := 19) hx hb hg inX4 tyX4 tyX4_ok nmX4 hown hK hP hD hS (336 + gf) (xgFrame hgf) rfl 12 (by decide) (hnw.use 1201 n1201 rfl) (fun _ h9 => h9) rfl (tyX4_ok 12 (by decide)) rfl rfl (Nat.le_of_ble_eq_true rfl) dX5_takesAnswer_79 (fun H locs hP hD hS => ?_)
        obtain ⟨V187, hV187⟩ : ∃ z, z = up2 V 79 gf z186 := ⟨_, rfl⟩
        have ew188 : (xw ad kk V L Z).set (336 + gf) ((Z.fa gf), .inr (4, (xfFrame V gf).set 12 (.int z186))) = xw ad kk V187 L Z := by rw [hV187]; exact xpFrame_sum hgf
        have hP : va_P D vwCl (xw ad kk V187 L Z) H := by rw [← ew188]; exact hP
        have hD : va_D A (xw ad kk V187 L Z) := by rw [← ew188]; exact hD
        have hMV187 : rgd bX V187 := hMV.put hV187 (i_full _)
        have agV187 : agr [(3, 15), (5, 6), (5, 7), (5, 9)] [30, 31, 32, 39, 67, 68, 69, 70, 71, 72, 73, 74, 75, 76, 77, 78, 79, 80, 81, 82, 83, 84, 85] V V187 := agV.up hV187 rfl
        have pq189 : (V187 3 13).toInt = ((V 3 13)).toInt := congrArg Int32.toInt (up2_o hV187 (by decide))
        refine lv_aload_n hx hb dX5_takesAnswer_82 rfl (lv_at hl 0 rfl) ?_
        refine va_get (D := D) (ci := 5) (v := .ref (ad 3)) (fs := (xfMachine ad V187 L Z)) (C := RX5) (T := TX5) (N := 15) hx hb hg inX5 hown hK hP 5 xgMachine rfl 0 (by decide) (hg _ w667) (fun _ h9 => h9) rfl dX5_takesAnswer_83 ?_
        refine lv_aload_n hx hb dX5_takesAnswer_86 rfl (lv_at hl 1 rfl) ?_
        refine va_getN (D := D) (ci := 4) (v := .int (V187 70 gf)) (fs := (xfFrame V187 gf)) (C := RX4) (T := TX4) (N := 19) hx hb hg inX4 hown hK hP (336 + gf) (xgFrame hgf) rfl 3 (by decide) (hnw.use 1192 n1192 rfl) (fun _ h9 => h9) rfl dX5_takesAnswer_87 ?_
        refine g_top (v := (V 70 gf)) (up2_o hV187 (by decide)) ?_
        refine lv_aload_n hx hb dX5_takesAnswer_90 rfl (lv_at hl 1 rfl) ?_
        refine va_getN (D := D) (ci := 4) (v := .int (V187 75 gf)) (fs := (xfFrame V187 gf)) (C := RX4) (T := TX4) (N := 19) hx hb hg inX4 hown hK hP (336 + gf) (xgFrame hgf) rfl 8 (by decide) (hnw.use 1197 n1197 rfl) (fun _ h9 => h9) rfl dX5_takesAnswer_91 ?_
        refine g_top (v := (V 75 gf)) (up2_o hV187 (by decide)) ?_
        refine lv_aload_n hx hb dX5_takesAnswer_94 rfl (lv_at hl 1 rfl) ?_
        refine va_getN (D := D) (ci := 4) (v := .int (V187 76 gf)) (fs := (xfFrame V187 gf)) (C := RX4) (T := TX4) (N := 19) hx hb hg inX4 hown hK hP (336 + gf) (xgFrame hgf) rfl 9 (by decide) (hnw.use 1198 n1198 rfl) (fun _ h9 => h9) rfl dX5_takesAnswer_95 ?_
        refine g_top (v := (V 76 gf)) (up2_o hV187 (by decide)) ?_
        have me190 : ME V V187 0 := (ME.up ME.rf hV187 (Or.inl ⟨by decide, by decide, by first | omega | ((try (have i_hz186 := Imp.go hz186 (by omega))); omega)⟩))
        have sl191 : SL V187 Z := by unfold SL; rw [me190.2.2.1.2.1, me190.2.2.1.1]; exact ⟨mup.2.2.2.2.1.1, mup.2.2.2.2.1.2.1, fun o k a1 a2 => by rw [me190.2.2.2.2.1]; exact mup.2.2.2.2.1.2.2.1 o k a1 a2, fun i a1 => by rw [me190.2.2.2.2.2.1]; exact mup.2.2.2.2.1.2.2.2 i a1⟩
        refine gA_int (gA_runV (As := [.int (V 70 gf), .int (V 75 gf), .int (V 76 gf)]) (rest := []) (ci := 8) (q0 := 3) hx hb hml hown hg hP hD hK hS hA hnw hgk (x_joinedTo9 l D ks H.size ad kk V187 L Z (V 70 gf) (V 75 gf) (V 76 gf) (ow) ((jl gm (8 * o.toNat + nd.toNat))) hMV187 sl191 (by rw [ko9, kn9]; exact CHN.mv (V := V) (by rw [(up2_o hV187 (by decide))]; exact Int.le_refl _) (fun i9 _ => (up2_o hV187 (by decide))) (fun i9 _ _ => (up2_o hV187 (by decide))) _ _ (by rw [(up2_o hV187 (by decide))]; exact (rn.2.2.1 o.toNat nd.toNat (by omega) (by omega)).1)) (show 0 ≤ ((V 70 gf)).toInt from by first | omega | ((try (have i_hz186 := Imp.go hz186 (by omega))); omega)) (show ((V 70 gf)).toInt < (V187 3 13).toInt from by first | omega | ((try (have i_hz186 := Imp.go hz186 (by omega))); omega)) (show 0 ≤ ((V 75 gf)).toInt from by first | exact om_eafa9039069c r4.1 | first | omega | ((try (have i_hz186 := Imp.go hz186 (by omega))); omega)) (show ((V 75 gf)).toInt ≤ 7 from by first | omega | ((try (have i_hz186 := Imp.go hz186 (by omega))); omega)) (show 0 ≤ ((V 76 gf)).toInt from by first | omega | ((try (have i_hz186 := Imp.go hz186 (by omega))); omega))) w1439 w1440 w1441 w164 w1442 rfl xgStock hdV_yX8_joinedTo ⟨Nat.le_of_ble_eq_true rfl, Nat.le_of_ble_eq_true rfl⟩ rfl hl.1 rfl (Nat.le_of_ble_eq_true rfl) dX5_takesAnswer_98 ⟨z0, z0⟩) hP hD hK hS hA (fun z192 u193 H locs w194 hP hD hK hS => ?_)
        have t195 := w194
        have t195 : JTo (jl gm (8 * o.toNat + nd.toNat)) ((V 76 gf)).toInt.toNat z192.toInt := t195
        refine lv_istore_n (lv' := [(2, .int z192), (0, .ref (ad 5)), (1, .ref (Z.fa gf))]) hx hb dX5_takesAnswer_101 rfl hl (by decide) rfl (fun ls hl => ?_)
        have jt9 := t195
        rw [q76] at jt9
        rcases jt9 with ⟨jz9, je9⟩ | ⟨x9, t8, je9, jz9⟩
        · skip
          have jd9 : jnd gm o.toNat nd.toNat it = none := by have h9 := jd_n je9; rw [(show ((it.toNat : Nat) : Int) = it from by omega)] at h9; exact h9
          refine lv_iload_n hx hb dX5_takesAnswer_102 rfl (lv_at hl 0 rfl) ?_
          refine lv_iconst (v := (-1)) hx hb dX5_takesAnswer_103 (by decide) ?_
          refine lv_icmp_ne (tgt := 117) hx hb dX5_takesAnswer_104 (by decide) (fun c196 => ?_) (fun c196 => ?_)
          · skip
            have f197 : z192.toInt ≠ (-1) := b_neq rfl (by decide) c196
            exfalso; first | omega | ((try (have i_hz186 := Imp.go hz186 (by omega))); omega)
          · skip
            have f198 : z192.toInt = (-1) := b_eq rfl (by decide) c196
            refine lv_aload_n hx hb dX5_takesAnswer_107 rfl (lv_at hl 1 rfl) ?_
            refine lv_aload_n hx hb dX5_takesAnswer_108 rfl (lv_at hl 2 rfl) ?_
            refine va_getN (D := D) (ci := 4) (v := .int (V187 79 gf)) (fs := (xfFrame V187 gf)) (C := RX4) (T := TX4) (N := 19) hx hb hg inX4 hown hK hP (336 + gf) (xgFrame hgf) rfl 12 (by decide) (hnw.use 1201 n1201 rfl) (fun _ h9 => h9) rfl dX5_takesAnswer_109 ?_
            refine g_top (v := z186) (up2_s hV187) ?_
            refine gA_void (gA_runV (As := [.int z186]) (rest := []) (ci := 5) (q0 := 5) hx hb hml hown hg hP hD hK hS hA hnw hgk (x_put9 l D ks H.size ad kk V187 L Z z186 hMV187 ) w1466 w1468 w72 w171 w1469 rfl xgMachine hdV_yX5_put ⟨Nat.le_of_ble_eq_true rfl, Nat.le_of_ble_eq_true rfl⟩ rfl hl.1 rfl (Nat.le_of_ble_eq_true rfl) dX5_takesAnswer_112 ⟨z0, z0⟩) hP hD hK hS hA (fun u200 H locs w201 hP hD hK hS => ?_)
            obtain ⟨V203, L204⟩ := u200
            obtain ⟨hMV203, ajV203, axL204, t202⟩ := w201
            have axL204 : L = L204 := Eq.symm axL204
            subst axL204
            have hP : va_P D vwCl (xw ad kk V203 L Z) H := hP
            have hD : va_D A (xw ad kk V203 L Z) := hD
            have hMV203 : rgd bX V203 := hMV203
            have ajV203 : agr [(5, 7)] [39] V187 V203 := ajV203
            have agV203 : agr [(3, 15), (5, 6), (5, 7), (5, 9)] [30, 31, 32, 39, 67, 68, 69, 70, 71, 72, 73, 74, 75, 76, 77, 78, 79, 80, 81, 82, 83, 84, 85] V V203 := agV187.tr ajV203 (by decide) (by decide)
            have t202 : (((V187 5 7).toInt < 2048) ∧ V203 = (up2 (up2 V187 5 7 (V187 5 7 + 1)) 39 (Int32.toNatClampNeg (V187 5 7)) z186)) ∨ ((2048 ≤ (V187 5 7).toInt) ∧ V203 = V187) := t202
            rcases t202 with ⟨hc205, hw206⟩ | ⟨hc207, hw208⟩
            · skip
              have pq210 : (V187 5 7).toInt = ((V 5 7)).toInt := congrArg Int32.toInt (up2_o hV187 (by decide))
              have r211 : 0 ≤ ((V 5 7)).toInt ∧ ((V 5 7)).toInt ≤ 2048 := hMV 5 7
              obtain ⟨z209, ez209⟩ : ∃ y : Int32, y = V187 5 7 + 1 := ⟨_, rfl⟩
              have hz209 : z209.toInt = (V187 5 7).toInt + 1 := i_add ez209 rfl (by decide) (by first | exact om_e8735de14d36 pq210 r211.1 r211.2 | first | omega | ((try (have i_hz186 := Imp.go hz186 (by omega))); omega))
              obtain ⟨V212, hV212⟩ : ∃ z, z = up2 V187 5 7 z209 := ⟨_, rfl⟩
              have hV203 : V203 = up2 V212 39 (Int32.toNatClampNeg (V187 5 7)) z186 := by rw [hw206, hV212, ez209]
              refine lv_iconst (v := 1) hx hb dX5_takesAnswer_115 (by decide) ?_
              have pq213 : (V203 5 6).toInt = ((V 5 6)).toInt := congrArg Int32.toInt ((up2_o hV203 (by decide)).trans ((up2_k hV212 (by decide)).trans (up2_o hV187 (by decide))))
              have pq214 : (V203 67 gf).toInt = ((V 67 gf)).toInt := congrArg Int32.toInt ((up2_o hV203 (by decide)).trans ((up2_o hV212 (by decide)).trans (up2_o hV187 (by decide))))
              have me215 : ME V V203 gf := (ME.up (ME.up (ME.up ME.rf hV187 (Or.inl ⟨by decide, by decide, Nat.le_refl _⟩)) hV212 (Or.inr (by omega))) hV203 (Or.inr (by omega)))
              have pq216 : (V203 68 gf).toInt = ((V 68 gf)).toInt := congrArg Int32.toInt ((up2_o hV203 (by decide)).trans ((up2_o hV212 (by decide)).trans (up2_o hV187 (by decide))))
              have pq217 : (V203 70 gf).toInt = ((V 70 gf)).toInt := congrArg Int32.toInt ((up2_o hV203 (by decide)).trans ((up2_o hV212 (by decide)).trans (up2_o hV187 (by decide))))
              have pq218 : (V203 71 gf).toInt = ((V 71 gf)).toInt := congrArg Int32.toInt ((up2_o hV203 (by decide)).trans ((up2_o hV212 (by decide)).trans (up2_o hV187 (by decide))))
              have pq219 : (V203 75 gf).toInt = ((V 75 gf)).toInt := congrArg Int32.toInt ((up2_o hV203 (by decide)).trans ((up2_o hV212 (by decide)).trans (up2_o hV187 (by decide))))
              have pq220 : (V203 76 gf).toInt = ((V 76 gf)).toInt := congrArg Int32.toInt ((up2_o hV203 (by decide)).trans ((up2_o hV212 (by decide)).trans (up2_o hV187 (by decide))))
              have pq221 : (V203 80 gf).toInt = ((V 80 gf)).toInt := congrArg Int32.toInt ((up2_o hV203 (by decide)).trans ((up2_o hV212 (by decide)).trans (up2_o hV187 (by decide))))
              have pq222 : (V203 84 gf).toInt = ((V 84 gf)).toInt := congrArg Int32.toInt ((up2_o hV203 (by decide)).trans ((up2_o hV212 (by decide)).trans (up2_o hV187 (by decide))))
              have pq223 : (V203 5 8).toInt = ((V 5 8)).toInt := congrArg Int32.toInt ((up2_o hV203 (by decide)).trans ((up2_k hV212 (by decide)).trans (up2_o hV187 (by decide))))
              have pq224 : (V203 5 9).toInt = ((V 5 9)).toInt := congrArg Int32.toInt ((up2_o hV203 (by decide)).trans ((up2_k hV212 (by decide)).trans (up2_o hV187 (by decide))))
              have pq225 : (V203 3 13).toInt = ((V 3 13)).toInt := congrArg Int32.toInt ((up2_o hV203 (by decide)).trans ((up2_o hV212 (by decide)).trans (up2_o hV187 (by decide))))
              have pq226 : (V203 43 (5 * b + 2)).toInt = ((V 43 (5 * b + 2))).toInt := congrArg Int32.toInt ((up2_o hV203 (by decide)).trans ((up2_o hV212 (by decide)).trans (up2_o hV187 (by decide))))
              have pq227 : (V203 42 b).toInt = ((V 42 b)).toInt := congrArg Int32.toInt ((up2_o hV203 (by decide)).trans ((up2_o hV212 (by decide)).trans (up2_o hV187 (by decide))))
              have pq228 : (V203 41 b).toInt = ((V 41 b)).toInt := congrArg Int32.toInt ((up2_o hV203 (by decide)).trans ((up2_o hV212 (by decide)).trans (up2_o hV187 (by decide))))
              have ep231 : V203 84 gf = (V 84 gf) := ((up2_o hV203 (by decide)).trans ((up2_o hV212 (by decide)).trans (up2_o hV187 (by decide))))
              have af230 : (V203 42 b).toInt ≤ (V203 84 gf).toInt ∨ (bdp V203 b (V203 84 gf).toInt.toNat).1 = true := by rw [ep231, me215.1.bd, me215.1 42 b (by decide) (by decide)]; exact ft
              have mo229 : MO V203 Z b gf True True True := MO.ch mo me215 ((up2_o hV203 (by decide)).trans ((up2_o hV212 (by decide)).trans (up2_o hV187 (by decide)))) ((up2_o hV203 (by decide)).trans ((up2_o hV212 (by decide)).trans (up2_o hV187 (by decide)))) (fun _ => Or.inl (by omega)) (fun x h => FK.k4 (by first | omega | ((try (have i_hz186 := Imp.go hz186 (by omega))); omega)) (by first | omega | ((try (have i_hz186 := Imp.go hz186 (by omega))); omega)) (by first | omega | ((try (have i_hz186 := Imp.go hz186 (by omega))); omega)) af230 (by first | omega | ((try (have i_hz186 := Imp.go hz186 (by omega))); omega)) (fun hph => absurd hph (by omega)))
              have tt9 := RWl.tot rl
              have tt8 := sf.2.1
              have tt7 : totP (gfr :: gr) ≤ 2000 := tt8
              obtain ⟨U9, hU9⟩ : ∃ z, z = up2 V203 68 gf 0 := ⟨_, rfl⟩
              have su9 : z186 = u + ga := by rw [ez186, q79, (rh.2.1 (show gm 0 6 = 1 from by (first | exact om_e9389ed92ad9 sg1 rh1 | omega)))]
              have wr232 : (U9 3 13).toInt = (V 3 13).toInt := congrArg Int32.toInt ((up2_o hU9 (by decide)).trans ((up2_o hV203 (by decide)).trans ((up2_o hV212 (by decide)).trans (up2_o hV187 (by decide)))))
              have wr233 : (U9 3 12).toInt = (V 3 12).toInt := congrArg Int32.toInt ((up2_o hU9 (by decide)).trans ((up2_o hV203 (by decide)).trans ((up2_o hV212 (by decide)).trans (up2_o hV187 (by decide)))))
              have wr234 : (U9 67 gf).toInt = ((V 67 gf)).toInt := (congrArg Int32.toInt ((up2_o hU9 (by decide)).trans ((up2_o hV203 (by decide)).trans ((up2_o hV212 (by decide)).trans (up2_o hV187 (by decide))))))
              have wr235 : (U9 68 gf).toInt = 0 := (congrArg Int32.toInt (up2_s hU9)).trans (by decide)
              have wr236 : (U9 69 gf).toInt = ((V 69 gf)).toInt := (congrArg Int32.toInt ((up2_o hU9 (by decide)).trans ((up2_o hV203 (by decide)).trans ((up2_o hV212 (by decide)).trans (up2_o hV187 (by decide))))))
              have wr237 : (U9 70 gf).toInt = ((V 70 gf)).toInt := (congrArg Int32.toInt ((up2_o hU9 (by decide)).trans ((up2_o hV203 (by decide)).trans ((up2_o hV212 (by decide)).trans (up2_o hV187 (by decide))))))
              have wr238 : (U9 71 gf).toInt = ((V 71 gf)).toInt := (congrArg Int32.toInt ((up2_o hU9 (by decide)).trans ((up2_o hV203 (by decide)).trans ((up2_o hV212 (by decide)).trans (up2_o hV187 (by decide))))))
              have wr239 : (U9 72 gf).toInt = ((V 72 gf)).toInt := (congrArg Int32.toInt ((up2_o hU9 (by decide)).trans ((up2_o hV203 (by decide)).trans ((up2_o hV212 (by decide)).trans (up2_o hV187 (by decide))))))
              have wr240 : (U9 84 gf).toInt = ((V 84 gf)).toInt := (congrArg Int32.toInt ((up2_o hU9 (by decide)).trans ((up2_o hV203 (by decide)).trans ((up2_o hV212 (by decide)).trans (up2_o hV187 (by decide))))))
              have tx9 : (Int32.toNatClampNeg (V187 5 7)) = tw9 := by have h9 := i_clamp (x := V187 5 7) rfl (by (first | exact om_ec2623e552ae pq210 r211.1 | omega)); omega
              have me241 : ME V U9 gf := (ME.up (ME.up (ME.up (ME.up ME.rf hV187 (Or.inl ⟨by decide, by decide, Nat.le_refl _⟩)) hV212 (Or.inr (by omega))) hV203 (Or.inr (by omega))) hU9 (Or.inl ⟨by decide, by decide, Nat.le_refl _⟩))
              have rl242 : RWl U9 gB gr t0 := RWl.mv hlr (fun i9 hi9 c9 h1 h2 => me241.2.1 c9 i9 h1 h2 (by omega)) (fun j9 hj9 => ((up2_o hU9 (by decide)).trans ((up2_k hV203 (by omega)).trans ((up2_o hV212 (by decide)).trans (up2_o hV187 (by decide)))))) (by rw [((up2_o hU9 (by decide)).trans ((up2_o hV203 (by decide)).trans ((up2_o hV212 (by decide)).trans (up2_o hV187 (by decide)))))]; exact Int.le_refl _) ((up2_o hU9 (by decide)).trans ((up2_o hV203 (by decide)).trans ((up2_o hV212 (by decide)).trans (up2_o hV187 (by decide)))))
              have fo8 : FRc U9 gB gr.length (Fwork lv o c sc 0 0 at9 v ((u + ga) :: p)) := by rw [gl9]; exact ⟨⟨by omega, by omega⟩, ⟨by omega, ⟨by omega, by omega, by omega⟩, ⟨by omega, by omega, by omega⟩, ⟨by omega, by omega, by omega⟩⟩, (fun h9 => absurd h9 (by decide)), ⟨a0, by omega⟩, (((up2_o hU9 (by decide)).trans ((up2_o hV203 (by decide)).trans ((up2_o hV212 (by decide)).trans (up2_o hV187 (by decide))))).trans q74)⟩
              have rlu : RWl U9 gB (Fwork lv o c sc 0 0 at9 v ((u + ga) :: p) :: gr) (tw9 + 1) := ⟨t0, (show tw9 + 1 = t0 + (p.length + 1) from by omega), fo8, fun _ _ => (by rw [gl9, ((up2_o hU9 (by decide)).trans ((up2_o hV203 (by decide)).trans ((up2_o hV212 (by decide)).trans (up2_o hV187 (by decide)))))]; exact hb8), ⟨tw9, rfl, (by rw [← tx9]; exact ((up2_o hU9 (by decide)).trans (up2_s hV203)).trans su9), plC.mv hp8 (fun j9 hj9 => ((up2_o hU9 (by decide)).trans ((up2_k hV203 (by omega)).trans ((up2_o hV212 (by decide)).trans (up2_o hV187 (by decide))))))⟩, rl242⟩
              have pq244 : (U9 5 6).toInt = ((V 5 6)).toInt := congrArg Int32.toInt ((up2_o hU9 (by decide)).trans ((up2_o hV203 (by decide)).trans ((up2_k hV212 (by decide)).trans (up2_o hV187 (by decide)))))
              have pq245 : (U9 5 7).toInt = z209.toInt := congrArg Int32.toInt ((up2_o hU9 (by decide)).trans ((up2_o hV203 (by decide)).trans (up2_s hV212)))
              have pq246 : (U9 5 9).toInt = ((V 5 9)).toInt := congrArg Int32.toInt ((up2_o hU9 (by decide)).trans ((up2_o hV203 (by decide)).trans ((up2_k hV212 (by decide)).trans (up2_o hV187 (by decide)))))
              have rz9 : RW U9 gB (gm, ga, Fwork lv o c sc 0 0 at9 v ((u + ga) :: p) :: gr) := RW.id rwq (ESw.ag (show agr [(5, 7)] [39, 68, 79] V U9 from (agr.up (agr.up (agr.up (agr.up agr.rf hV187 rfl) hV212 rfl) hV203 rfl) hU9 rfl)) (by decide)) ((up2_o hU9 (by decide)).trans ((up2_o hV203 (by decide)).trans ((up2_k hV212 (by decide)).trans (up2_o hV187 (by decide))))) ((up2_o hU9 (by decide)).trans ((up2_o hV203 (by decide)).trans ((up2_k hV212 (by decide)).trans (up2_o hV187 (by decide))))) ((up2_o hU9 (by decide)).trans ((up2_o hV203 (by decide)).trans ((up2_k hV212 (by decide)).trans (up2_o hV187 (by decide))))) ((up2_o hU9 (by decide)).trans ((up2_o hV203 (by decide)).trans ((up2_k hV212 (by decide)).trans (up2_o hV187 (by decide))))) (show (U9 5 6).toInt = ((gr.length + 1 : Nat) : Int) from by (first | exact om_ccabef0d2974 gd gl9 pq244 | omega)) (show (U9 5 7).toInt = ((tw9 + 1 : Nat) : Int) from by omega) rlu
              have rx243 : ∃ f2, stM gB (gm, ga, gfr :: gr) = (gm, ga, f2 :: gr) ∧ RW (up2 V203 68 gf 0) gB (gm, ga, f2 :: gr) := ⟨_, (by rw [hfe, st_16e (show gm 0 6 = 1 from by (first | exact om_e9389ed92ad9 sg1 rh1 | omega)) jd9]), (by rw [← hU9]; exact rz9)⟩
              refine W.know (fun kr1 kr2 => ?_)
              refine W.widen (k := zcc Z) (n := zss Z) (Nat.sub_le _ _) (Nat.sub_le _ _) ?_
              exact W.zret (v := 1) hx hb hr rfl (fun t ht hW => ⟨⟨1, (V203, L, Z), rfl, ⟨hMV203, agV203, rfl, zoZ, (by decide), (Imp.mk (fun _ => mo229)), (Imp.mk (fun hp => absurd hp (by decide))), (Imp.mk (fun _ => (show (V203 5 6).toInt = (V 5 6).toInt ∧ (V203 67 gf).toInt = 4 from by first | exact om_7c7da5faf5fa gk pq213 pq214 | first | omega | ((try (have i_hz186 := Imp.go hz186 (by omega))); omega)))), (Imp.mk (fun _ => rfl)), (Or.inl ⟨rfl, rx243⟩)⟩, ⟨by rw [ht]; exact hP, va_K.moved hW.alike hK, hD⟩, by rw [ht]; exact kr1, by rw [ht]; exact kr2⟩, hS.F ht⟩) hS.2.2 dX5_takesAnswer_116
            · skip
              have ajV203 : agr [] [] V187 V203 := by rw [hw208]; exact agr.rf
              refine lv_iconst (v := 1) hx hb dX5_takesAnswer_115 (by decide) ?_
              have pq247 : (V203 5 6).toInt = ((V 5 6)).toInt := congrArg Int32.toInt ((ajV203 5 6 rfl).trans (up2_o hV187 (by decide)))
              have pq248 : (V203 67 gf).toInt = ((V 67 gf)).toInt := congrArg Int32.toInt ((ajV203 67 gf rfl).trans (up2_o hV187 (by decide)))
              have me249 : ME V V203 gf := (ME.tr (ME.up ME.rf hV187 (Or.inl ⟨by decide, by decide, Nat.le_refl _⟩)) (ME.ag ajV203 (by decide)))
              have pq250 : (V203 68 gf).toInt = ((V 68 gf)).toInt := congrArg Int32.toInt ((ajV203 68 gf rfl).trans (up2_o hV187 (by decide)))
              have pq251 : (V203 70 gf).toInt = ((V 70 gf)).toInt := congrArg Int32.toInt ((ajV203 70 gf rfl).trans (up2_o hV187 (by decide)))
              have pq252 : (V203 71 gf).toInt = ((V 71 gf)).toInt := congrArg Int32.toInt ((ajV203 71 gf rfl).trans (up2_o hV187 (by decide)))
              have pq253 : (V203 75 gf).toInt = ((V 75 gf)).toInt := congrArg Int32.toInt ((ajV203 75 gf rfl).trans (up2_o hV187 (by decide)))
              have pq254 : (V203 76 gf).toInt = ((V 76 gf)).toInt := congrArg Int32.toInt ((ajV203 76 gf rfl).trans (up2_o hV187 (by decide)))
              have pq255 : (V203 80 gf).toInt = ((V 80 gf)).toInt := congrArg Int32.toInt ((ajV203 80 gf rfl).trans (up2_o hV187 (by decide)))
              have pq256 : (V203 84 gf).toInt = ((V 84 gf)).toInt := congrArg Int32.toInt ((ajV203 84 gf rfl).trans (up2_o hV187 (by decide)))
              have pq257 : (V203 5 8).toInt = ((V 5 8)).toInt := congrArg Int32.toInt ((ajV203 5 8 rfl).trans (up2_o hV187 (by decide)))
              have pq258 : (V203 5 9).toInt = ((V 5 9)).toInt := congrArg Int32.toInt ((ajV203 5 9 rfl).trans (up2_o hV187 (by decide)))
              have pq259 : (V203 3 13).toInt = ((V 3 13)).toInt := congrArg Int32.toInt ((ajV203 3 13 rfl).trans (up2_o hV187 (by decide)))
              have pq260 : (V203 43 (5 * b + 2)).toInt = ((V 43 (5 * b + 2))).toInt := congrArg Int32.toInt ((ajV203 43 (5 * b + 2) rfl).trans (up2_o hV187 (by decide)))
              have pq261 : (V203 42 b).toInt = ((V 42 b)).toInt := congrArg Int32.toInt ((ajV203 42 b rfl).trans (up2_o hV187 (by decide)))
              have pq262 : (V203 41 b).toInt = ((V 41 b)).toInt := congrArg Int32.toInt ((ajV203 41 b rfl).trans (up2_o hV187 (by decide)))
              have ep265 : V203 84 gf = (V 84 gf) := ((ajV203 84 gf rfl).trans (up2_o hV187 (by decide)))
              have af264 : (V203 42 b).toInt ≤ (V203 84 gf).toInt ∨ (bdp V203 b (V203 84 gf).toInt.toNat).1 = true := by rw [ep265, me249.1.bd, me249.1 42 b (by decide) (by decide)]; exact ft
              have mo263 : MO V203 Z b gf True True True := MO.ch mo me249 ((ajV203 67 gf rfl).trans (up2_o hV187 (by decide))) ((ajV203 80 gf rfl).trans (up2_o hV187 (by decide))) (fun _ => Or.inl (by omega)) (fun x h => FK.k4 (by first | omega | ((try (have i_hz186 := Imp.go hz186 (by omega))); omega)) (by first | omega | ((try (have i_hz186 := Imp.go hz186 (by omega))); omega)) (by first | omega | ((try (have i_hz186 := Imp.go hz186 (by omega))); omega)) af264 (by first | omega | ((try (have i_hz186 := Imp.go hz186 (by omega))); omega)) (fun hph => absurd hph (by omega)))
              have tt9 := RWl.tot rl
              have tt8 := sf.2.1
              have tt7 : totP (gfr :: gr) ≤ 2000 := tt8
              have pq266 : (V187 5 7).toInt = ((V 5 7)).toInt := congrArg Int32.toInt (up2_o hV187 (by decide))
              have r267 : 0 ≤ ((V 5 7)).toInt ∧ ((V 5 7)).toInt ≤ 2048 := hMV 5 7
              refine W.know (fun kr1 kr2 => ?_)
              refine W.widen (k := zcc Z) (n := zss Z) (Nat.sub_le _ _) (Nat.sub_le _ _) ?_
              exact W.zret (v := 1) hx hb hr rfl (fun t ht hW => ⟨⟨1, (V203, L, Z), rfl, ⟨hMV203, agV203, rfl, zoZ, (by decide), (Imp.mk (fun _ => mo263)), (Imp.mk (fun hp => absurd hp (by decide))), (Imp.mk (fun _ => (show (V203 5 6).toInt = (V 5 6).toInt ∧ (V203 67 gf).toInt = 4 from by first | exact om_7c7da5faf5fa gk pq247 pq248 | first | omega | ((try (have i_hz186 := Imp.go hz186 (by omega))); omega)))), (Imp.mk (fun _ => rfl)), (by exfalso; omega)⟩, ⟨by rw [ht]; exact hP, va_K.moved hW.alike hK, hD⟩, by rw [ht]; exact kr1, by rw [ht]; exact kr2⟩, hS.F ht⟩) hS.2.2 dX5_takesAnswer_116
        · skip
          have jd9 : jnd gm o.toNat nd.toNat it = some x9 := by have h9 := jd_y je9; rw [(show ((it.toNat : Nat) : Int) = it from by omega)] at h9; exact h9
          have jv9 := jl_dy je9
          have jx9 : 0 ≤ x9 := by rw [← jv9.2]; exact jnn _
          refine lv_iload_n hx hb dX5_takesAnswer_102 rfl (lv_at hl 0 rfl) ?_
          refine lv_iconst (v := (-1)) hx hb dX5_takesAnswer_103 (by decide) ?_
          refine lv_icmp_ne (tgt := 117) hx hb dX5_takesAnswer_104 (by decide) (fun c268 => ?_) (fun c268 => ?_)
          · skip
            have f269 : z192.toInt ≠ (-1) := b_neq rfl (by decide) c268
            refine lv_aload_n hx hb dX5_takesAnswer_117 rfl (lv_at hl 2 rfl) ?_
            refine lv_dup hx hb dX5_takesAnswer_118 rfl ?_
            refine va_getN (D := D) (ci := 4) (v := .int (V187 76 gf)) (fs := (xfFrame V187 gf)) (C := RX4) (T := TX4) (N := 19) hx hb hg inX4 hown hK hP (336 + gf) (xgFrame hgf) rfl 9 (by decide) (hnw.use 1198 n1198 rfl) (fun _ h9 => h9) rfl dX5_takesAnswer_119 ?_
            refine g_top (v := (V 76 gf)) (up2_o hV187 (by decide)) ?_
            refine lv_iconst (v := 1) hx hb dX5_takesAnswer_122 (by decide) ?_
            refine lv_iadd hx hb dX5_takesAnswer_123 ?_
            have r270 := i_full (V 76 gf)
            refine lv_topi (fun z271 ez271 => ?_)
            have hz271 : Imp (-2147483648 ≤ ((V 76 gf)).toInt + 1 ∧ ((V 76 gf)).toInt + 1 ≤ 2147483647) (z271.toInt = ((V 76 gf)).toInt + 1) := Imp.mk (fun hp => i_add ez271 rfl (by decide) hp)
            refine va_putN (D := D) (ci := 4) (v := .int z271) (ty := tyX4 9) (fs := (xfFrame V187 gf)) (C := RX4) (T := TX4) (N := 19) hx hb hg inX4 tyX4 tyX4_ok nmX4 hown hK hP hD hS (336 + gf) (xgFrame hgf) rfl 9 (by decide) (hnw.use 1198 n1198 rfl) (fun _ h9 => h9) rfl (tyX4_ok 9 (by decide)) rfl rfl (Nat.le_of_ble_eq_true rfl) dX5_takesAnswer_124 (fun H locs hP hD hS => ?_)
            obtain ⟨V272, hV272⟩ : ∃ z, z = up2 V187 76 gf z271 := ⟨_, rfl⟩
            have ew273 : (xw ad kk V187 L Z).set (336 + gf) ((Z.fa gf), .inr (4, (xfFrame V187 gf).set 9 (.int z271))) = xw ad kk V272 L Z := by rw [hV272]; exact xpFrame_item hgf
            have hP : va_P D vwCl (xw ad kk V272 L Z) H := by rw [← ew273]; exact hP
            have hD : va_D A (xw ad kk V272 L Z) := by rw [← ew273]; exact hD
            have hMV272 : rgd bX V272 := hMV187.put hV272 (i_full _)
            have agV272 : agr [(3, 15), (5, 6), (5, 7), (5, 9)] [30, 31, 32, 39, 67, 68, 69, 70, 71, 72, 73, 74, 75, 76, 77, 78, 79, 80, 81, 82, 83, 84, 85] V V272 := agV187.up hV272 rfl
            refine lv_aload_n hx hb dX5_takesAnswer_127 rfl (lv_at hl 1 rfl) ?_
            refine lv_iload_n hx hb dX5_takesAnswer_128 rfl (lv_at hl 0 rfl) ?_
            refine lv_aload_n hx hb dX5_takesAnswer_129 rfl (lv_at hl 2 rfl) ?_
            refine va_getN (D := D) (ci := 4) (v := .int (V272 72 gf)) (fs := (xfFrame V272 gf)) (C := RX4) (T := TX4) (N := 19) hx hb hg inX4 hown hK hP (336 + gf) (xgFrame hgf) rfl 5 (by decide) (hnw.use 1194 n1194 rfl) (fun _ h9 => h9) rfl dX5_takesAnswer_130 ?_
            refine g_top (v := (V 72 gf)) ((up2_o hV272 (by decide)).trans (up2_o hV187 (by decide))) ?_
            have r274 : 0 ≤ ((V 72 gf)).toInt ∧ ((V 72 gf)).toInt ≤ 39 := hMV 72 gf
            refine lv_aload_n hx hb dX5_takesAnswer_133 rfl (lv_at hl 2 rfl) ?_
            refine va_getN (D := D) (ci := 4) (v := .int (V272 77 gf)) (fs := (xfFrame V272 gf)) (C := RX4) (T := TX4) (N := 19) hx hb hg inX4 hown hK hP (336 + gf) (xgFrame hgf) rfl 10 (by decide) (hnw.use 1199 n1199 rfl) (fun _ h9 => h9) rfl dX5_takesAnswer_134 ?_
            refine g_top (v := (V 77 gf)) ((up2_o hV272 (by decide)).trans (up2_o hV187 (by decide))) ?_
            have r275 : 0 ≤ ((V 77 gf)).toInt ∧ ((V 77 gf)).toInt ≤ 19 := hMV 77 gf
            refine lv_aload_n hx hb dX5_takesAnswer_137 rfl (lv_at hl 2 rfl) ?_
            refine va_getN (D := D) (ci := 4) (v := .int (V272 78 gf)) (fs := (xfFrame V272 gf)) (C := RX4) (T := TX4) (N := 19) hx hb hg inX4 hown hK hP (336 + gf) (xgFrame hgf) rfl 11 (by decide) (hnw.use 1200 n1200 rfl) (fun _ h9 => h9) rfl dX5_takesAnswer_138 ?_
            refine g_top (v := (V 78 gf)) ((up2_o hV272 (by decide)).trans (up2_o hV187 (by decide))) ?_
            refine lv_aload_n hx hb dX5_takesAnswer_141 rfl (lv_at hl 2 rfl) ?_
            refine va_getN (D := D) (ci := 4) (v := .int (V272 69 gf)) (fs := (xfFrame V272 gf)) (C := RX4) (T := TX4) (N := 19) hx hb hg inX4 hown hK hP (336 + gf) (xgFrame hgf) rfl 2 (by decide) (hnw.use 1191 n1191 rfl) (fun _ h9 => h9) rfl dX5_takesAnswer_142 ?_
            refine g_top (v := (V 69 gf)) ((up2_o hV272 (by decide)).trans (up2_o hV187 (by decide))) ?_
            refine lv_iconst (v := 1) hx hb dX5_takesAnswer_145 (by decide) ?_
            refine lv_iadd hx hb dX5_takesAnswer_146 ?_
            have r276 := i_full (V 69 gf)
            refine lv_topi (fun z277 ez277 => ?_)
            have hz277 : Imp (-2147483648 ≤ ((V 69 gf)).toInt + 1 ∧ ((V 69 gf)).toInt + 1 ≤ 2147483647) (z277.toInt = ((V 69 gf)).toInt + 1) := Imp.mk (fun hp => i_add ez277 rfl (by decide) hp)
            have me278 : ME V V272 gf := (ME.up (ME.up ME.rf hV187 (Or.inl ⟨by decide, by decide, Nat.le_refl _⟩)) hV272 (Or.inl ⟨by decide, by decide, Nat.le_refl _⟩))
            have pq279 : (V272 67 gf).toInt = ((V 67 gf)).toInt := congrArg Int32.toInt ((up2_o hV272 (by decide)).trans (up2_o hV187 (by decide)))
            have pq280 : (V272 68 gf).toInt = ((V 68 gf)).toInt := congrArg Int32.toInt ((up2_o hV272 (by decide)).trans (up2_o hV187 (by decide)))
            have pq281 : (V272 70 gf).toInt = ((V 70 gf)).toInt := congrArg Int32.toInt ((up2_o hV272 (by decide)).trans (up2_o hV187 (by decide)))
            have pq282 : (V272 71 gf).toInt = ((V 71 gf)).toInt := congrArg Int32.toInt ((up2_o hV272 (by decide)).trans (up2_o hV187 (by decide)))
            have pq283 : (V272 75 gf).toInt = ((V 75 gf)).toInt := congrArg Int32.toInt ((up2_o hV272 (by decide)).trans (up2_o hV187 (by decide)))
            have pq284 : (V272 76 gf).toInt = z271.toInt := congrArg Int32.toInt (up2_s hV272)
            have pq285 : (V272 80 gf).toInt = ((V 80 gf)).toInt := congrArg Int32.toInt ((up2_o hV272 (by decide)).trans (up2_o hV187 (by decide)))
            have pq286 : (V272 84 gf).toInt = ((V 84 gf)).toInt := congrArg Int32.toInt ((up2_o hV272 (by decide)).trans (up2_o hV187 (by decide)))
            have pq287 : (V272 5 6).toInt = ((V 5 6)).toInt := congrArg Int32.toInt ((up2_o hV272 (by decide)).trans (up2_o hV187 (by decide)))
            have pq288 : (V272 5 8).toInt = ((V 5 8)).toInt := congrArg Int32.toInt ((up2_o hV272 (by decide)).trans (up2_o hV187 (by decide)))
            have pq289 : (V272 5 9).toInt = ((V 5 9)).toInt := congrArg Int32.toInt ((up2_o hV272 (by decide)).trans (up2_o hV187 (by decide)))
            have pq290 : (V272 3 13).toInt = ((V 3 13)).toInt := congrArg Int32.toInt ((up2_o hV272 (by decide)).trans (up2_o hV187 (by decide)))
            have pq291 : (V272 43 (5 * b + 2)).toInt = ((V 43 (5 * b + 2))).toInt := congrArg Int32.toInt ((up2_o hV272 (by decide)).trans (up2_o hV187 (by decide)))
            have pq292 : (V272 42 b).toInt = ((V 42 b)).toInt := congrArg Int32.toInt ((up2_o hV272 (by decide)).trans (up2_o hV187 (by decide)))
            have pq293 : (V272 41 b).toInt = ((V 41 b)).toInt := congrArg Int32.toInt ((up2_o hV272 (by decide)).trans (up2_o hV187 (by decide)))
            have ep296 : V272 84 gf = (V 84 gf) := ((up2_o hV272 (by decide)).trans (up2_o hV187 (by decide)))
            have af295 : (V272 42 b).toInt ≤ (V272 84 gf).toInt ∨ (bdp V272 b (V272 84 gf).toInt.toNat).1 = true := by rw [ep296, me278.1.bd, me278.1 42 b (by decide) (by decide)]; exact ft
            have mo294 : MO V272 Z b gf True True True := MO.ch mo me278 ((up2_o hV272 (by decide)).trans (up2_o hV187 (by decide))) ((up2_o hV272 (by decide)).trans (up2_o hV187 (by decide))) (fun _ => Or.inl (by omega)) (fun x h => FK.k4 (by first | omega | ((try (have i_hz277 := Imp.go hz277 (by omega))); (try (have i_hz271 := Imp.go hz271 (by omega))); (try (have i_hz186 := Imp.go hz186 (by omega))); (try (have i_hz186 := Imp.go hz186 (by omega))); (try (have i_hz271 := Imp.go hz271 (by omega))); (try (have i_hz277 := Imp.go hz277 (by omega))); omega)) (by first | omega | ((try (have i_hz277 := Imp.go hz277 (by omega))); (try (have i_hz271 := Imp.go hz271 (by omega))); (try (have i_hz186 := Imp.go hz186 (by omega))); (try (have i_hz186 := Imp.go hz186 (by omega))); (try (have i_hz271 := Imp.go hz271 (by omega))); (try (have i_hz277 := Imp.go hz277 (by omega))); omega)) (by first | omega | ((try (have i_hz277 := Imp.go hz277 (by omega))); (try (have i_hz271 := Imp.go hz271 (by omega))); (try (have i_hz186 := Imp.go hz186 (by omega))); (try (have i_hz186 := Imp.go hz186 (by omega))); (try (have i_hz271 := Imp.go hz271 (by omega))); (try (have i_hz277 := Imp.go hz277 (by omega))); omega)) af295 (by first | omega | ((try (have i_hz277 := Imp.go hz277 (by omega))); (try (have i_hz271 := Imp.go hz271 (by omega))); (try (have i_hz186 := Imp.go hz186 (by omega))); (try (have i_hz186 := Imp.go hz186 (by omega))); (try (have i_hz271 := Imp.go hz271 (by omega))); (try (have i_hz277 := Imp.go hz277 (by omega))); omega)) (fun hph => absurd hph (by omega)))
            have mt297 : MT V272 Z b := MO.mt mo294 (by (first | exact om_c09d41618ed8 hgf | omega)) (by (first | exact om_82fa09255765 gd pq287 | omega))
            refine W.know (fun k299 k300 => ?_)
            obtain ⟨Hk298, hHk298⟩ : ∃ z, z = H := ⟨_, rfl⟩
            have k299 : Hk298.size ≤ s.heap.size + (zcc Z - zcc Z) := by rw [hHk298]; exact k299
            have k300 : tot Hk298 ≤ tot s.heap + (zss Z - zss Z) := by rw [hHk298]; exact k300
            refine gZ_void (gA_runV (As := [.int z192, .int (V 72 gf), .int (V 77 gf), .int (V 78 gf), .int z277]) (rest := []) (ci := 5) (q0 := 5) hx hb hml hown hg hP hD hK hS hA hnw hgk (x_pushCall9 l D ks H.size ad kk V272 L Z z192 (V 72 gf) (V 77 gf) (V 78 gf) z277 (b) hMV272 (by first | exact om_13ba01c174fe r274.1 r274.2 | first | omega | ((try (have i_hz277 := Imp.go hz277 (by omega))); (try (have i_hz271 := Imp.go hz271 (by omega))); (try (have i_hz186 := Imp.go hz186 (by omega))); (try (have i_hz186 := Imp.go hz186 (by omega))); (try (have i_hz271 := Imp.go hz271 (by omega))); (try (have i_hz277 := Imp.go hz277 (by omega))); omega)) (by first | exact om_0916ac166aa8 r77.1 r77.2 | first | omega | ((try (have i_hz277 := Imp.go hz277 (by omega))); (try (have i_hz271 := Imp.go hz271 (by omega))); (try (have i_hz186 := Imp.go hz186 (by omega))); (try (have i_hz186 := Imp.go hz186 (by omega))); (try (have i_hz271 := Imp.go hz271 (by omega))); (try (have i_hz277 := Imp.go hz277 (by omega))); omega)) (show b < 2 from by first | exact om_f940a4667dd6 hb2 | first | omega | ((try (have i_hz277 := Imp.go hz277 (by omega))); (try (have i_hz271 := Imp.go hz271 (by omega))); (try (have i_hz186 := Imp.go hz186 (by omega))); (try (have i_hz186 := Imp.go hz186 (by omega))); (try (have i_hz271 := Imp.go hz271 (by omega))); (try (have i_hz277 := Imp.go hz277 (by omega))); omega)) mt297) w1454 w1455 w1456 w171 w1457 rfl xgMachine hdV_yX5_pushCall ⟨Nat.le_of_ble_eq_true rfl, Nat.le_of_ble_eq_true rfl⟩ rfl hl.1 rfl (Nat.le_of_ble_eq_true rfl) dX5_takesAnswer_147 ⟨z1 zoZ.1, z1 zoZ.2.1⟩) hD hS hA (fun u302 H locs w303 hP hD hK hS y304 y305 => ?_)
            obtain ⟨V306, L307, Z308⟩ := u302
            obtain ⟨hMV306, ajV306, axL307, zlZ308, t310, t311⟩ := w303
            have axL307 : L = L307 := Eq.symm axL307
            subst axL307
            have hP : va_P D vwCl (xw ad kk V306 L Z308) H := hP
            have hD : va_D A (xw ad kk V306 L Z308) := hD
            have hK : va_K D vwCl (xty kk Z308) s := hK
            have hMV306 : rgd bX V306 := hMV306
            have ajV306 : agr [(5, 6), (5, 9)] [67, 68, 69, 70, 71, 72, 73, 74, 75, 76, 77, 78, 79, 80, 81, 82, 83, 84, 85] V272 V306 := ajV306
            have agV306 : agr [(3, 15), (5, 6), (5, 7), (5, 9)] [30, 31, 32, 39, 67, 68, 69, 70, 71, 72, 73, 74, 75, 76, 77, 78, 79, 80, 81, 82, 83, 84, 85] V V306 := agV272.tr ajV306 (by decide) (by decide)
            have zlZ308 : ZL Z Z308 := zlZ308
            have zoZ308 : ZL Z Z308 := ZL.tr zoZ zlZ308
            have ziZ308 := zlZ308.1
            have zjZ308 := zlZ308.2.1
            have zkZ308 := zlZ308.2.2.1
            have zmZ308 := zoZ308.1
            have znZ308 := zoZ308.2.1
            have zpZ_Z308 := zoZ.1
            have zqZ_Z308 := zoZ.2.1
            have y304 : H.size ≤ Hk298.size + (zcc Z - zcc Z308) := by rw [hHk298]; exact y304
            have y305 : tot H ≤ tot Hk298 + (zss Z - zss Z308) := by rw [hHk298]; exact y305
            refine W.tight (k := zcc Z - zcc Z308) (n := zss Z - zss Z308) (by first | exact tg9 y304 k299 zlZ308.1 zoZ.1 | omega) (by first | exact tg9 y305 k300 zlZ308.2.1 zoZ.2.1 | omega) ?_
            have hl : lv_has ls 3 [(2, .int z192), (0, .ref (ad 5)), (1, .ref (Z308.fa gf))] := by rw [zlZ308.2.2.2.2 gf hgf]; exact hl
            have t310 : MJ V306 Z308 b := t310
            have t311 : Imp ((V272 5 6).toInt < 400) (PCa V272 V306 ((V272 5 6).toInt.toNat) z192 (V 72 gf) (V 77 gf) (V 78 gf) z277) := t311
            refine lv_iconst (v := 0) hx hb dX5_takesAnswer_150 (by decide) ?_
            have r312 : 0 ≤ ((V306 5 6)).toInt ∧ ((V306 5 6)).toInt ≤ 400 := hMV306 5 6
            have tt9 := RWl.tot rl
            have tt8 := sf.2.1
            have tt7 : totP (gfr :: gr) ≤ 2000 := tt8
            have gx9 := (GOs.sf (show GOs gB (mU gm 0 6 0, ga, Fcall0 (lv + 1) x9 (gm 1 x9.toNat) sc tg g :: Fsum lv o c sc at9 nd tg (it + 1) v g (u + ga) p :: gr) from by have h9 := GOs.nx go9; rw [hfe, st_16j (show gm 0 6 = 1 from by (first | exact om_e9389ed92ad9 sg1 rh1 | omega)) jd9] at h9; exact h9)).2.2.2.2 _ _ rfl
            have gy9 : x9 < gm 0 2 := by have h9 : x9 < (mU gm 0 6 0) 0 2 := gx9 jx9; rw [mU_o _ _ (by omega)] at h9; exact h9
            have it9 := Imp.go hz271 (by omega)
            have su9 : z186 = u + ga := by rw [ez186, q79, (rh.2.1 (show gm 0 6 = 1 from by (first | exact om_e9389ed92ad9 sg1 rh1 | omega)))]
            have pw := Imp.go t311 (by (first | exact om_f2444a3e49ba gd gl9 sl9 pq287 | omega))
            have pi9 : (V272 5 6).toInt.toNat = gr.length + 1 := by (first | exact om_e14d89dbab7d gd gl9 pq287 | omega)
            rw [pi9] at pw
            obtain ⟨⟨pd1, pd2, pke⟩, ⟨pk1, pk2⟩, p69, p70, p72, p73, p74, pc1, pc2, pc3⟩ := pw
            have wr313 := congrArg Int32.toInt p69
            have wr314 := congrArg Int32.toInt p70
            have wr315 := congrArg Int32.toInt p72
            have wr316 := congrArg Int32.toInt p73
            have lz9 : z277.toInt = (V 69 gf).toInt + 1 := i_add ez277 rfl (by decide) (by omega)
            have wr317 : (V306 3 13).toInt = (V 3 13).toInt := congrArg Int32.toInt ((ajV306 3 13 rfl).trans ((up2_o hV272 (by decide)).trans (up2_o hV187 (by decide))))
            have wr318 : (V306 3 12).toInt = (V 3 12).toInt := congrArg Int32.toInt ((ajV306 3 12 rfl).trans ((up2_o hV272 (by decide)).trans (up2_o hV187 (by decide))))
            have wr319 : (V306 67 gf).toInt = ((V 67 gf)).toInt := (congrArg Int32.toInt ((pke gf (by omega) 67 (by decide) (by decide)).trans ((up2_o hV272 (by decide)).trans (up2_o hV187 (by decide)))))
            have wr320 : (V306 68 gf).toInt = ((V 68 gf)).toInt := (congrArg Int32.toInt ((pke gf (by omega) 68 (by decide) (by decide)).trans ((up2_o hV272 (by decide)).trans (up2_o hV187 (by decide)))))
            have wr321 : (V306 69 gf).toInt = ((V 69 gf)).toInt := (congrArg Int32.toInt ((pke gf (by omega) 69 (by decide) (by decide)).trans ((up2_o hV272 (by decide)).trans (up2_o hV187 (by decide)))))
            have wr322 : (V306 70 gf).toInt = ((V 70 gf)).toInt := (congrArg Int32.toInt ((pke gf (by omega) 70 (by decide) (by decide)).trans ((up2_o hV272 (by decide)).trans (up2_o hV187 (by decide)))))
            have wr323 : (V306 71 gf).toInt = ((V 71 gf)).toInt := (congrArg Int32.toInt ((pke gf (by omega) 71 (by decide) (by decide)).trans ((up2_o hV272 (by decide)).trans (up2_o hV187 (by decide)))))
            have wr324 : (V306 72 gf).toInt = ((V 72 gf)).toInt := (congrArg Int32.toInt ((pke gf (by omega) 72 (by decide) (by decide)).trans ((up2_o hV272 (by decide)).trans (up2_o hV187 (by decide)))))
            have wr325 : (V306 75 gf).toInt = ((V 75 gf)).toInt := (congrArg Int32.toInt ((pke gf (by omega) 75 (by decide) (by decide)).trans ((up2_o hV272 (by decide)).trans (up2_o hV187 (by decide)))))
            have wr326 : (V306 76 gf).toInt = z271.toInt := (congrArg Int32.toInt ((pke gf (by omega) 76 (by decide) (by decide)).trans (up2_s hV272)))
            have wr327 : (V306 77 gf).toInt = ((V 77 gf)).toInt := (congrArg Int32.toInt ((pke gf (by omega) 77 (by decide) (by decide)).trans ((up2_o hV272 (by decide)).trans (up2_o hV187 (by decide)))))
            have wr328 : (V306 84 gf).toInt = ((V 84 gf)).toInt := (congrArg Int32.toInt ((pke gf (by omega) 84 (by decide) (by decide)).trans ((up2_o hV272 (by decide)).trans (up2_o hV187 (by decide)))))
            have me329 : ME V V272 gf := (ME.up (ME.up ME.rf hV187 (Or.inl ⟨by decide, by decide, Nat.le_refl _⟩)) hV272 (Or.inl ⟨by decide, by decide, Nat.le_refl _⟩))
            have rl330 : RWl V306 gB gr t0 := RWl.mv hlr (fun i9 hi9 c9 h1 h2 => ((pke i9 (by omega) c9 h1 h2)).trans (me329.2.1 c9 i9 h1 h2 (by omega))) (fun j9 hj9 => ((ajV306 39 j9 rfl).trans ((up2_o hV272 (by decide)).trans (up2_o hV187 (by decide))))) (by rw [((ajV306 3 13 rfl).trans ((up2_o hV272 (by decide)).trans (up2_o hV187 (by decide))))]; exact Int.le_refl _) ((ajV306 3 12 rfl).trans ((up2_o hV272 (by decide)).trans (up2_o hV187 (by decide))))
            have fo8 : FRc V306 gB gr.length (Fsum lv o c sc at9 nd tg (it + 1) v g (u + ga) p) := by rw [gl9]; exact ⟨⟨by omega, by omega⟩, ⟨by omega, ⟨by omega, by omega, by omega⟩, ⟨by omega, by omega, by omega⟩, ⟨by omega, by omega, by omega⟩⟩, ⟨a0, by omega⟩, by omega, by omega, by omega, ((pke gf (by omega) 74 (by decide) (by decide)).trans (((up2_o hV272 (by decide)).trans (up2_o hV187 (by decide))).trans q74)), ((pke gf (by omega) 78 (by decide) (by decide)).trans (((up2_o hV272 (by decide)).trans (up2_o hV187 (by decide))).trans q78)), ((pke gf (by omega) 79 (by decide) (by decide)).trans (((up2_o hV272 (by decide)).trans (up2_s hV187)).trans su9))⟩
            have rl331 : RWl V306 gB (Fsum lv o c sc at9 nd tg (it + 1) v g (u + ga) p :: gr) tw9 := ⟨t0, tl7, fo8, fun _ _ => (by rw [gl9, ((pke gf (by omega) 85 (by decide) (by decide)).trans ((up2_o hV272 (by decide)).trans (up2_o hV187 (by decide))))]; exact hb8), plC.mv hp8 (fun j9 _ => (show agr [(5, 6), (5, 9)] [67, 68, 69, 70, 71, 72, 73, 74, 75, 76, 77, 78, 79, 80, 81, 82, 83, 84, 85] V V306 from (agr.tr (agr.up (agr.up agr.rf hV187 rfl) hV272 rfl) ajV306 (by decide) (by decide))) 39 j9 rfl), rl330⟩
            have b13 : (V272 3 13).toInt = (V 3 13).toInt := congrArg Int32.toInt (((up2_o hV272 (by decide)).trans (up2_o hV187 (by decide))))
            have n249 := bc.2.2.2.1.2.1
            have c71 : (0 ≤ x9 → (V306 71 (gr.length + 1)).toInt = (gm 1 x9.toNat)) ∧ (0 ≤ (V306 71 (gr.length + 1)).toInt ∧ (V306 71 (gr.length + 1)).toInt < ((nC gB : Nat) : Int)) := by
              by_cases h9 : 0 ≤ x9
              · have h8 := pc1 ⟨by omega, by omega⟩
                have h7 := rn.2.1 x9.toNat (by omega)
                have h6 : Int32.toNatClampNeg z192 = x9.toNat := by have h5 := i_clamp (x := z192) rfl (by omega); omega
                rw [h6, ((up2_o hV272 (by decide)).trans (up2_o hV187 (by decide)))] at h8
                have h5 := congrArg Int32.toInt h8
                have h4 := h7.1.1
                have h3 := h7.2.2.1
                exact ⟨fun _ => by omega, by omega, by omega⟩
              · have h8 := pc2 (fun h7 => h9 (by omega))
                exact ⟨fun h7 => absurd h7 h9, by omega, by omega⟩
            have ft9 : FRc V306 gB (gr.length + 1) (Fcall0 (lv + 1) x9 (gm 1 x9.toNat) sc tg g) := ⟨⟨pk1, pk2⟩, by omega, by omega, fun h9 => ⟨by omega, c71.1 h9⟩, c71.2, ⟨by omega, by omega, by omega⟩, ⟨by omega, by omega, by omega⟩, p74.trans q78⟩
            have rz9 : RW V306 gB (mU gm 0 6 0, ga, Fcall0 (lv + 1) x9 (gm 1 x9.toNat) sc tg g :: Fsum lv o c sc at9 nd tg (it + 1) v g (u + ga) p :: gr) := RW.sgn rwq (ESw.ag (show agr [(5, 6), (5, 9)] [67, 68, 69, 70, 71, 72, 73, 74, 75, 76, 77, 78, 79, 80, 81, 82, 83, 84, 85] V V306 from (agr.tr (agr.up (agr.up agr.rf hV187 rfl) hV272 rfl) ajV306 (by decide) (by decide))) (by decide)) pd2 (fun h9 => absurd h9 (by decide)) (fun h9 => absurd h9 (by decide)) (show (V306 5 6).toInt = ((gr.length + 1 + 1 : Nat) : Int) from by omega) (show (V306 5 7).toInt = ((tw9 : Nat) : Int) from by rw [((ajV306 5 7 rfl).trans ((up2_o hV272 (by decide)).trans (up2_o hV187 (by decide))))]; exact rt9) (RWl.push rl331 ft9 rfl (np9 rfl))
            have rx332 : RW V306 gB (stM gB (gm, ga, gfr :: gr)) := by rw [hfe, st_16j (show gm 0 6 = 1 from by (first | exact om_e9389ed92ad9 sg1 rh1 | omega)) jd9]; exact rz9
            refine W.know (fun kr1 kr2 => ?_)
            refine W.widen (k := zcc Z) (n := zss Z) (Nat.sub_le _ _) (Nat.sub_le _ _) ?_
            exact W.zret (v := 0) hx hb hr rfl (fun t ht hW => ⟨⟨0, (V306, L, Z308), rfl, ⟨hMV306, agV306, rfl, zoZ308, (by decide), (Imp.mk (fun hp => absurd hp (by decide))), (Imp.mk (fun _ => t310)), (Imp.mk (fun hp => absurd hp (by decide))), (Imp.mk (fun hp => absurd hp (by decide))), (Or.inr ⟨rfl, rx332⟩)⟩, ⟨by rw [ht]; exact hP, va_K.moved hW.alike hK, hD⟩, by rw [ht]; exact kr1, by rw [ht]; exact kr2⟩, hS.F ht⟩) hS.2.2 dX5_takesAnswer_151
          · skip
            have f333 : z192.toInt = (-1) := b_eq rfl (by decide) c268
            exfalso; first | omega | ((try (have i_hz186 := Imp.go hz186 (by omega))); omega)
      · skip
        have f334 : ((V 68 gf)).toInt = 7 := b_eq rfl (by decide) c182
        exfalso; omega
    · skip
      have f335 : ((V 68 gf)).toInt = 1 := b_eq rfl (by decide) c180
      exfalso; omega
end
