/-! what is told of the faults -/
def flF (F : FSt) (i w : Int) : Int := if 0 ≤ i ∧ i < ((F.1 : Nat) : Int) ∧ i < 100 ∧ 0 ≤ w ∧ w < 3 then ((F.2 i.toNat w.toNat : Nat) : Int) else -1
theorem flF_n {F : FSt} {i w : Int} (h : ¬ (0 ≤ i ∧ i < ((F.1 : Nat) : Int) ∧ i < 100 ∧ 0 ≤ w ∧ w < 3)) : flF F i w = -1 := if_neg h
theorem flF_y {F : FSt} {i w : Int} {k j : Nat} (hi : i = (k : Int)) (hw : w = (j : Int)) (h : k < F.1) (h1 : k < 100) (h2 : j < 3) : flF F i w = ((F.2 k j : Nat) : Int) := by
  subst hi hw
  unfold flF
  rw [if_pos ⟨by omega, by omega, by omega, by omega, by omega⟩]
  rfl
def cyF (F : FSt) (i k : Int) : Int := if 0 ≤ i ∧ i < ((F.1 : Nat) : Int) ∧ i < 100 ∧ F.2 i.toNat 0 = 3 ∧ 0 ≤ k ∧ k < ((F.2 i.toNat 2 : Nat) : Int) then ((F.2 i.toNat (3 + k.toNat) : Nat) : Int) else -1
theorem cyF_n {F : FSt} {i k : Int} (h : ¬ (0 ≤ i ∧ i < ((F.1 : Nat) : Int) ∧ i < 100 ∧ F.2 i.toNat 0 = 3 ∧ 0 ≤ k ∧ k < ((F.2 i.toNat 2 : Nat) : Int))) : cyF F i k = -1 := if_neg h
theorem cyF_y {F : FSt} {i k : Int} {a b : Nat} (hi : i = (a : Int)) (hk : k = (b : Int)) (h : a < F.1) (h1 : a < 100) (h3 : F.2 a 0 = 3) (h2 : b < F.2 a 2) : cyF F i k = ((F.2 a (3 + b) : Nat) : Int) := by
  subst hi hk
  unfold cyF
  rw [if_pos ⟨by omega, by omega, by omega, h3, by omega, (show ((b : Nat) : Int) < ((F.2 a 2 : Nat) : Int) from by omega)⟩]
  rfl


abbrev r_x_tells7 : Room := { frames := 0, cells := 0, slots := 0, locals := 0 }
abbrev q_x_tells7 (D : va_G) (ks : KS) (ad : Nat → Nat) (kk : Nat → ClassId) (V : Vf) (L : Lf) (Z : XZ) (p0 : Int32) (gF : FSt) (A : Nat → Prop) : Array Value → State → Outcome → State → Prop := va_Qi (fun (r : Int32) (_ : Unit) => (0 ≤ r.toInt ∧ r.toInt ≤ 1) ∧ (((r.toInt = 1 ∧ 0 ≤ p0.toInt ∧ p0.toInt < ((gF.1 : Nat) : Int) ∧ p0.toInt ≤ 99) ∨ (r.toInt = 0 ∧ (p0.toInt < 0 ∨ ((gF.1 : Nat) : Int) ≤ p0.toInt ∨ 100 ≤ p0.toInt))))) (fun _ t => gq D A (xw ad kk V L Z) (xty kk Z) t) A
set_option maxHeartbeats 4000000 in
set_option maxRecDepth 100000 in
theorem x_tells7 (l : Launch) (D : va_G) (ks : KS) (sz : Nat) (ad : Nat → Nat) (kk : Nat → ClassId) (V : Vf) (L : Lf) (Z : XZ) (p0 : Int32) (gF : FSt) (hMV : rgd bX V) (flq : FLc V gF)  : Met l yX2_tells (Cond.code yX2_tells cX2_tells 2 (some .boolean) :: GW) r_x_tells7 (va_Pc [.ref (ad 2), .int p0] (gp D ks (xw ad kk V L Z) (xty kk Z) sz)) (q_x_tells7 D ks ad kk V L Z p0 gF (va_A (xw ad kk V L Z) sz)) 0 0 (va_A (xw ad kk V L Z) sz) := by
  refine g_met (q_x_tells7 D ks ad kk V L Z p0 gF) (by decide) (Nat.le_of_ble_eq_true rfl) ?_
  intro p e s m below meth c A ls H locs hx hb hr hml hown hg hlocks hin hnw hgk hP hK hD hS hA hl
  have hown : s.vm.findClass RX2 = some m.cls := hown
  have hl : lv_has ls 2 [(0, .ref (ad 2)), (1, .int p0)] := hl
  have hP : va_P D vwCl (xw ad kk V L Z) H := hP
  have hD : va_D A (xw ad kk V L Z) := hD
  have hK : va_K D vwCl (xty kk Z) s := hK
  have fn0 := flq.n
  refine lv_iload_n hx hb dX2_tells_0 rfl (lv_at hl 1 rfl) ?_
  refine lv_if_lt (tgt := 22) hx hb dX2_tells_1 (by decide) (fun c1 => ?_) (fun c1 => ?_)
  · skip
    have f2 : p0.toInt < 0 := b_lt rfl (by decide) c1
    refine lv_iconst (v := 0) hx hb dX2_tells_22 (by decide) ?_
    exact W.zret (v := 0) hx hb hr rfl (fun t ht hW => ⟨⟨0, (), rfl, ⟨(by decide), (show ((0 = 1 ∧ 0 ≤ p0.toInt ∧ p0.toInt < ((gF.1 : Nat) : Int) ∧ p0.toInt ≤ 99) ∨ (0 = 0 ∧ (p0.toInt < 0 ∨ ((gF.1 : Nat) : Int) ≤ p0.toInt ∨ 100 ≤ p0.toInt))) from by first | omega | ((try (have i_flq := Imp.go flq (by omega))); omega))⟩, by rw [ht]; exact hP, va_K.moved hW.alike hK, hD⟩, hS.F ht⟩) hS.2.2 dX2_tells_23
  · skip
    have f3 : 0 ≤ p0.toInt := b_nlt rfl (by decide) c1
    refine lv_iload_n hx hb dX2_tells_4 rfl (lv_at hl 1 rfl) ?_
    refine lv_aload_n hx hb dX2_tells_5 rfl (lv_at hl 0 rfl) ?_
    refine va_get (D := D) (ci := 2) (v := .int (V 2 7)) (fs := (xfChecker ad V L Z)) (C := RX2) (T := TX2) (N := 8) hx hb hg inX2 hown hK hP 2 xgChecker rfl 7 (by decide) (hg _ w345) (fun _ h9 => h9) rfl dX2_tells_6 ?_
    have r4 : 0 ≤ ((V 2 7)).toInt ∧ ((V 2 7)).toInt ≤ 1000000 := hMV 2 7
    refine lv_icmp_ge (tgt := 22) hx hb dX2_tells_9 (by decide) (fun c5 => ?_) (fun c5 => ?_)
    · skip
      have f6 : ((V 2 7)).toInt ≤ p0.toInt := b_le rfl rfl c5
      refine lv_iconst (v := 0) hx hb dX2_tells_22 (by decide) ?_
      exact W.zret (v := 0) hx hb hr rfl (fun t ht hW => ⟨⟨0, (), rfl, ⟨(by decide), (show ((0 = 1 ∧ 0 ≤ p0.toInt ∧ p0.toInt < ((gF.1 : Nat) : Int) ∧ p0.toInt ≤ 99) ∨ (0 = 0 ∧ (p0.toInt < 0 ∨ ((gF.1 : Nat) : Int) ≤ p0.toInt ∨ 100 ≤ p0.toInt))) from by first | omega | ((try (have i_flq := Imp.go flq (by omega))); omega))⟩, by rw [ht]; exact hP, va_K.moved hW.alike hK, hD⟩, hS.F ht⟩) hS.2.2 dX2_tells_23
    · skip
      have f7 : p0.toInt < ((V 2 7)).toInt := b_nle rfl rfl c5
      refine lv_iload_n hx hb dX2_tells_12 rfl (lv_at hl 1 rfl) ?_
      refine lv_bipush (v := 100) hx hb dX2_tells_13 (by decide) ?_
      refine lv_icmp_ge (tgt := 22) hx hb dX2_tells_15 (by decide) (fun c8 => ?_) (fun c8 => ?_)
      · skip
        have f9 : 100 ≤ p0.toInt := b_le (by decide) rfl c8
        refine lv_iconst (v := 0) hx hb dX2_tells_22 (by decide) ?_
        exact W.zret (v := 0) hx hb hr rfl (fun t ht hW => ⟨⟨0, (), rfl, ⟨(by decide), (show ((0 = 1 ∧ 0 ≤ p0.toInt ∧ p0.toInt < ((gF.1 : Nat) : Int) ∧ p0.toInt ≤ 99) ∨ (0 = 0 ∧ (p0.toInt < 0 ∨ ((gF.1 : Nat) : Int) ≤ p0.toInt ∨ 100 ≤ p0.toInt))) from by first | omega | ((try (have i_flq := Imp.go flq (by omega))); omega))⟩, by rw [ht]; exact hP, va_K.moved hW.alike hK, hD⟩, hS.F ht⟩) hS.2.2 dX2_tells_23
      · skip
        have f10 : p0.toInt < 100 := b_nle (by decide) rfl c8
        refine lv_iconst (v := 1) hx hb dX2_tells_18 (by decide) ?_
        refine lv_goto (tgt := 23) hx hb dX2_tells_19 (by decide) ?_
        exact W.zret (v := 1) hx hb hr rfl (fun t ht hW => ⟨⟨1, (), rfl, ⟨(by decide), (show ((1 = 1 ∧ 0 ≤ p0.toInt ∧ p0.toInt < ((gF.1 : Nat) : Int) ∧ p0.toInt ≤ 99) ∨ (1 = 0 ∧ (p0.toInt < 0 ∨ ((gF.1 : Nat) : Int) ≤ p0.toInt ∨ 100 ≤ p0.toInt))) from by first | omega | ((try (have i_flq := Imp.go flq (by omega))); omega))⟩, by rw [ht]; exact hP, va_K.moved hW.alike hK, hD⟩, hS.F ht⟩) hS.2.2 dX2_tells_23
abbrev r_x_tell7 : Room := { frames := 1, cells := 0, slots := 0, locals := 21 }
abbrev q_x_tell7 (D : va_G) (ks : KS) (ad : Nat → Nat) (kk : Nat → ClassId) (V : Vf) (L : Lf) (Z : XZ) (p0 : Int32) (p1 : Int32) (gF : FSt) (A : Nat → Prop) : Array Value → State → Outcome → State → Prop := va_Qi (fun (r : Int32) (_ : Unit) => (r.toInt = flF gF p0.toInt p1.toInt)) (fun _ t => gq D A (xw ad kk V L Z) (xty kk Z) t) A
set_option maxHeartbeats 4000000 in
set_option maxRecDepth 100000 in
theorem x_tell7 (l : Launch) (D : va_G) (ks : KS) (sz : Nat) (ad : Nat → Nat) (kk : Nat → ClassId) (V : Vf) (L : Lf) (Z : XZ) (p0 : Int32) (p1 : Int32) (gF : FSt) (hMV : rgd bX V) (flq : FLc V gF)  : Met l yX2_tell (Cond.code yX2_tell cX2_tell 3 (some .int) :: GW) r_x_tell7 (va_Pc [.ref (ad 2), .int p0, .int p1] (gp D ks (xw ad kk V L Z) (xty kk Z) sz)) (q_x_tell7 D ks ad kk V L Z p0 p1 gF (va_A (xw ad kk V L Z) sz)) 0 0 (va_A (xw ad kk V L Z) sz) := by
  refine g_met (q_x_tell7 D ks ad kk V L Z p0 p1 gF) (by decide) (Nat.le_of_ble_eq_true rfl) ?_
  intro p e s m below meth c A ls H locs hx hb hr hml hown hg hlocks hin hnw hgk hP hK hD hS hA hl
  have hown : s.vm.findClass RX2 = some m.cls := hown
  have hl : lv_has ls 3 [(0, .ref (ad 2)), (1, .int p0), (2, .int p1)] := hl
  have hP : va_P D vwCl (xw ad kk V L Z) H := hP
  have hD : va_D A (xw ad kk V L Z) := hD
  have hK : va_K D vwCl (xty kk Z) s := hK
  have fn0 := flq.n
  refine lv_aload_n hx hb dX2_tell_0 rfl (lv_at hl 0 rfl) ?_
  refine lv_iload_n hx hb dX2_tell_1 rfl (lv_at hl 1 rfl) ?_
  refine gA_int (gA_runV (As := [.int p0]) (rest := []) (ci := 2) (q0 := 2) hx hb hml hown hg hP hD hK hS hA hnw hgk (x_tells7 l D ks H.size ad kk V L Z p0 (gF) hMV flq) w1121 w1123 w41 w163 w1124 rfl xgChecker hdV_yX2_tells ⟨Nat.le_of_ble_eq_true rfl, Nat.le_of_ble_eq_true rfl⟩ rfl hl.1 rfl (Nat.le_of_ble_eq_true rfl) dX2_tell_2 ⟨Nat.le_of_ble_eq_true rfl, Nat.le_of_ble_eq_true rfl⟩) hP hD hK hS hA (fun z1 u2 H locs w3 hP hD hK hS => ?_)
  obtain ⟨rgz1, t4⟩ := w3
  have rgz1 : 0 ≤ z1.toInt ∧ z1.toInt ≤ 1 := rgz1
  have t4 : ((z1.toInt = 1 ∧ 0 ≤ p0.toInt ∧ p0.toInt < ((gF.1 : Nat) : Int) ∧ p0.toInt ≤ 99) ∨ (z1.toInt = 0 ∧ (p0.toInt < 0 ∨ ((gF.1 : Nat) : Int) ≤ p0.toInt ∨ 100 ≤ p0.toInt))) := t4
  refine lv_if_ne (tgt := 10) hx hb dX2_tell_5 (by decide) (fun c5 => ?_) (fun c5 => ?_)
  · skip
    have f6 : z1.toInt ≠ 0 := b_neq rfl (by decide) c5
    have kk9 := i_clamp (x := p0) rfl (by omega)
    have fk9 := flq.1.2 (Int32.toNatClampNeg p0) (by omega) (by omega)
    refine lv_iload_n hx hb dX2_tell_10 rfl (lv_at hl 2 rfl) ?_
    by_cases q7 : p1 = 0
    · refine g_top (v := 0) q7 ?_
      have fq7 : p1.toInt = 0 := b_eq rfl (by decide) q7
      refine lv_tableIn (x := 0) (off := 25) (tgt := 36) hx hb dX2_tell_11 (by decide) (by decide) (by decide) (by decide) ?_
      refine lv_aload_n hx hb dX2_tell_36 rfl (lv_at hl 0 rfl) ?_
      refine va_get (D := D) (ci := 2) (v := .ref (ad 12)) (fs := (xfChecker ad V L Z)) (C := RX2) (T := TX2) (N := 8) hx hb hg inX2 hown hK hP 2 xgChecker rfl 0 (by decide) (hg _ w338) (fun _ h9 => h9) rfl dX2_tell_37 ?_
      refine lv_iload_n hx hb dX2_tell_40 rfl (lv_at hl 1 rfl) ?_
      refine va_iald (D := D) (i := p0) hx hb hK hP 12 5 rfl rfl (i_in (a := p0.toInt) rfl (by first | omega | ((try (have i_flq := Imp.go flq (by omega))); omega))) dX2_tell_41 ?_
      exact W.iret (v := (V 15 (Int32.toNatClampNeg p0))) hx hb hr (fun t ht hW => ⟨⟨(V 15 (Int32.toNatClampNeg p0)), (), rfl, (by rw [flF_y (k := Int32.toNatClampNeg p0) (j := 0) (by omega) (by omega) (by omega) (by omega) (by decide)]; exact fk9.1), by rw [ht]; exact hP, va_K.moved hW.alike hK, hD⟩, hS.F ht⟩) hS.2.2 dX2_tell_42
    by_cases q8 : p1 = 1
    · refine g_top (v := 1) q8 ?_
      have fq8 : p1.toInt = 1 := b_eq rfl (by decide) q8
      refine lv_tableIn (x := 1) (off := 32) (tgt := 43) hx hb dX2_tell_11 (by decide) (by decide) (by decide) (by decide) ?_
      refine lv_aload_n hx hb dX2_tell_43 rfl (lv_at hl 0 rfl) ?_
      refine va_get (D := D) (ci := 2) (v := .ref (ad 13)) (fs := (xfChecker ad V L Z)) (C := RX2) (T := TX2) (N := 8) hx hb hg inX2 hown hK hP 2 xgChecker rfl 1 (by decide) (hg _ w339) (fun _ h9 => h9) rfl dX2_tell_44 ?_
      refine lv_iload_n hx hb dX2_tell_47 rfl (lv_at hl 1 rfl) ?_
      refine va_iald (D := D) (i := p0) hx hb hK hP 13 6 rfl rfl (i_in (a := p0.toInt) rfl (by first | omega | ((try (have i_flq := Imp.go flq (by omega))); omega))) dX2_tell_48 ?_
      exact W.iret (v := (V 16 (Int32.toNatClampNeg p0))) hx hb hr (fun t ht hW => ⟨⟨(V 16 (Int32.toNatClampNeg p0)), (), rfl, (by rw [flF_y (k := Int32.toNatClampNeg p0) (j := 1) (by omega) (by omega) (by omega) (by omega) (by decide)]; exact fk9.2.1), by rw [ht]; exact hP, va_K.moved hW.alike hK, hD⟩, hS.F ht⟩) hS.2.2 dX2_tell_49
    by_cases q9 : p1 = 2
    · refine g_top (v := 2) q9 ?_
      have fq9 : p1.toInt = 2 := b_eq rfl (by decide) q9
      refine lv_tableIn (x := 2) (off := 39) (tgt := 50) hx hb dX2_tell_11 (by decide) (by decide) (by decide) (by decide) ?_
      refine lv_aload_n hx hb dX2_tell_50 rfl (lv_at hl 0 rfl) ?_
      refine va_get (D := D) (ci := 2) (v := .ref (ad 14)) (fs := (xfChecker ad V L Z)) (C := RX2) (T := TX2) (N := 8) hx hb hg inX2 hown hK hP 2 xgChecker rfl 2 (by decide) (hg _ w340) (fun _ h9 => h9) rfl dX2_tell_51 ?_
      refine lv_iload_n hx hb dX2_tell_54 rfl (lv_at hl 1 rfl) ?_
      refine va_iald (D := D) (i := p0) hx hb hK hP 14 7 rfl rfl (i_in (a := p0.toInt) rfl (by first | omega | ((try (have i_flq := Imp.go flq (by omega))); omega))) dX2_tell_55 ?_
      have r10 : (-100) ≤ ((V 17 (Int32.toNatClampNeg p0))).toInt ∧ ((V 17 (Int32.toNatClampNeg p0))).toInt ≤ 24 := hMV 17 (Int32.toNatClampNeg p0)
      exact W.iret (v := (V 17 (Int32.toNatClampNeg p0))) hx hb hr (fun t ht hW => ⟨⟨(V 17 (Int32.toNatClampNeg p0)), (), rfl, (by rw [flF_y (k := Int32.toNatClampNeg p0) (j := 2) (by omega) (by omega) (by omega) (by omega) (by decide)]; exact fk9.2.2.1), by rw [ht]; exact hP, va_K.moved hW.alike hK, hD⟩, hS.F ht⟩) hS.2.2 dX2_tell_56
    refine lv_tableOut (x := p1) (tgt := 57) hx hb dX2_tell_11 (tab_out p1 2 (by decide) (fun k hk => match k, hk with | 0, _ => q7 | 1, _ => q8 | 2, _ => q9 | k + 3, hk => absurd hk (by omega))) (by decide) ?_
    have gd11 : p1.toInt ≠ 0 := fun h9 => q7 (Int32.toInt_inj.mp (h9.trans (by decide)))
    have gd12 : p1.toInt ≠ 1 := fun h9 => q8 (Int32.toInt_inj.mp (h9.trans (by decide)))
    have gd13 : p1.toInt ≠ 2 := fun h9 => q9 (Int32.toInt_inj.mp (h9.trans (by decide)))
    refine lv_iconst (v := (-1)) hx hb dX2_tell_57 (by decide) ?_
    exact W.iret (v := (-1)) hx hb hr (fun t ht hW => ⟨⟨(-1), (), rfl, (by rw [flF_n (by omega)]; decide), by rw [ht]; exact hP, va_K.moved hW.alike hK, hD⟩, hS.F ht⟩) hS.2.2 dX2_tell_58
  · skip
    have f14 : z1.toInt = 0 := b_eq rfl (by decide) c5
    refine lv_iconst (v := (-1)) hx hb dX2_tell_8 (by decide) ?_
    exact W.iret (v := (-1)) hx hb hr (fun t ht hW => ⟨⟨(-1), (), rfl, (by rw [flF_n (by omega)]; decide), by rw [ht]; exact hP, va_K.moved hW.alike hK, hD⟩, hS.F ht⟩) hS.2.2 dX2_tell_9
abbrev r_x_onRing7 : Room := { frames := 1, cells := 0, slots := 0, locals := 21 }
abbrev q_x_onRing7 (D : va_G) (ks : KS) (ad : Nat → Nat) (kk : Nat → ClassId) (V : Vf) (L : Lf) (Z : XZ) (p0 : Int32) (p1 : Int32) (gF : FSt) (A : Nat → Prop) : Array Value → State → Outcome → State → Prop := va_Qi (fun (r : Int32) (_ : Unit) => (r.toInt = cyF gF p0.toInt p1.toInt)) (fun _ t => gq D A (xw ad kk V L Z) (xty kk Z) t) A
set_option maxHeartbeats 4000000 in
set_option maxRecDepth 100000 in
theorem x_onRing7 (l : Launch) (D : va_G) (ks : KS) (sz : Nat) (ad : Nat → Nat) (kk : Nat → ClassId) (V : Vf) (L : Lf) (Z : XZ) (p0 : Int32) (p1 : Int32) (gF : FSt) (hMV : rgd bX V) (flq : FLc V gF)  : Met l yX2_onRing (Cond.code yX2_onRing cX2_onRing 4 (some .int) :: GW) r_x_onRing7 (va_Pc [.ref (ad 2), .int p0, .int p1] (gp D ks (xw ad kk V L Z) (xty kk Z) sz)) (q_x_onRing7 D ks ad kk V L Z p0 p1 gF (va_A (xw ad kk V L Z) sz)) 0 0 (va_A (xw ad kk V L Z) sz) := by
  refine g_met (q_x_onRing7 D ks ad kk V L Z p0 p1 gF) (by decide) (Nat.le_of_ble_eq_true rfl) ?_
  intro p e s m below meth c A ls H locs hx hb hr hml hown hg hlocks hin hnw hgk hP hK hD hS hA hl
  have hown : s.vm.findClass RX2 = some m.cls := hown
  have hl : lv_has ls 4 [(0, .ref (ad 2)), (1, .int p0), (2, .int p1)] := hl
  have hP : va_P D vwCl (xw ad kk V L Z) H := hP
  have hD : va_D A (xw ad kk V L Z) := hD
  have hK : va_K D vwCl (xty kk Z) s := hK
  have fn0 := flq.n
  refine lv_aload_n hx hb dX2_onRing_0 rfl (lv_at hl 0 rfl) ?_
  refine lv_iload_n hx hb dX2_onRing_1 rfl (lv_at hl 1 rfl) ?_
  refine gA_int (gA_runV (As := [.int p0]) (rest := []) (ci := 2) (q0 := 2) hx hb hml hown hg hP hD hK hS hA hnw hgk (x_tells7 l D ks H.size ad kk V L Z p0 (gF) hMV flq) w1121 w1123 w41 w163 w1124 rfl xgChecker hdV_yX2_tells ⟨Nat.le_of_ble_eq_true rfl, Nat.le_of_ble_eq_true rfl⟩ rfl hl.1 rfl (Nat.le_of_ble_eq_true rfl) dX2_onRing_2 ⟨Nat.le_of_ble_eq_true rfl, Nat.le_of_ble_eq_true rfl⟩) hP hD hK hS hA (fun z1 u2 H locs w3 hP hD hK hS => ?_)
  obtain ⟨rgz1, t4⟩ := w3
  have rgz1 : 0 ≤ z1.toInt ∧ z1.toInt ≤ 1 := rgz1
  have t4 : ((z1.toInt = 1 ∧ 0 ≤ p0.toInt ∧ p0.toInt < ((gF.1 : Nat) : Int) ∧ p0.toInt ≤ 99) ∨ (z1.toInt = 0 ∧ (p0.toInt < 0 ∨ ((gF.1 : Nat) : Int) ≤ p0.toInt ∨ 100 ≤ p0.toInt))) := t4
  refine lv_if_eq (tgt := 22) hx hb dX2_onRing_5 (by decide) (fun c5 => ?_) (fun c5 => ?_)
  · skip
    have f6 : z1.toInt = 0 := b_eq rfl (by decide) c5
    refine lv_iconst (v := 0) hx hb dX2_onRing_22 (by decide) ?_
    refine lv_istore_n (lv' := [(3, .int 0), (0, .ref (ad 2)), (1, .int p0), (2, .int p1)]) hx hb dX2_onRing_23 rfl hl (by decide) rfl (fun ls hl => ?_)
    refine lv_iload_n hx hb dX2_onRing_24 rfl (lv_at hl 0 rfl) ?_
    refine lv_if_eq (tgt := 56) hx hb dX2_onRing_25 (by decide) (fun _ => ?_) (fun q => absurd (by decide) q)
    refine lv_iconst (v := (-1)) hx hb dX2_onRing_56 (by decide) ?_
    exact W.iret (v := (-1)) hx hb hr (fun t ht hW => ⟨⟨(-1), (), rfl, (by rw [cyF_n (by omega)]; decide), by rw [ht]; exact hP, va_K.moved hW.alike hK, hD⟩, hS.F ht⟩) hS.2.2 dX2_onRing_57
  · skip
    have f7 : z1.toInt ≠ 0 := b_neq rfl (by decide) c5
    have kk9 := i_clamp (x := p0) rfl (by omega)
    have fk9 := flq.1.2 (Int32.toNatClampNeg p0) (by omega) (by omega)
    have fe9 : p0.toInt.toNat = Int32.toNatClampNeg p0 := rfl
    refine lv_aload_n hx hb dX2_onRing_8 rfl (lv_at hl 0 rfl) ?_
    refine va_get (D := D) (ci := 2) (v := .ref (ad 12)) (fs := (xfChecker ad V L Z)) (C := RX2) (T := TX2) (N := 8) hx hb hg inX2 hown hK hP 2 xgChecker rfl 0 (by decide) (hg _ w338) (fun _ h9 => h9) rfl dX2_onRing_9 ?_
    refine lv_iload_n hx hb dX2_onRing_12 rfl (lv_at hl 1 rfl) ?_
    refine va_iald (D := D) (i := p0) hx hb hK hP 12 5 rfl rfl (i_in (a := p0.toInt) rfl (by first | omega | ((try (have i_flq := Imp.go flq (by omega))); omega))) dX2_onRing_13 ?_
    refine lv_iconst (v := 3) hx hb dX2_onRing_14 (by decide) ?_
    refine lv_icmp_ne (tgt := 22) hx hb dX2_onRing_15 (by decide) (fun c8 => ?_) (fun c8 => ?_)
    · skip
      have f9 : ((V 15 (Int32.toNatClampNeg p0))).toInt ≠ 3 := b_neq rfl (by decide) c8
      refine lv_iconst (v := 0) hx hb dX2_onRing_22 (by decide) ?_
      refine lv_istore_n (lv' := [(3, .int 0), (0, .ref (ad 2)), (1, .int p0), (2, .int p1)]) hx hb dX2_onRing_23 rfl hl (by decide) rfl (fun ls hl => ?_)
      refine lv_iload_n hx hb dX2_onRing_24 rfl (lv_at hl 0 rfl) ?_
      refine lv_if_eq (tgt := 56) hx hb dX2_onRing_25 (by decide) (fun _ => ?_) (fun q => absurd (by decide) q)
      refine lv_iconst (v := (-1)) hx hb dX2_onRing_56 (by decide) ?_
      exact W.iret (v := (-1)) hx hb hr (fun t ht hW => ⟨⟨(-1), (), rfl, (by rw [cyF_n (fun h9 => by have h1 := h9.2.2.2.1; have h2 := h9.2.2.2.2.1; have h3 := h9.2.2.2.2.2; rw [fe9] at h1 h3; omega)]; decide), by rw [ht]; exact hP, va_K.moved hW.alike hK, hD⟩, hS.F ht⟩) hS.2.2 dX2_onRing_57
    · skip
      have f10 : ((V 15 (Int32.toNatClampNeg p0))).toInt = 3 := b_eq rfl (by decide) c8
      refine lv_iconst (v := 1) hx hb dX2_onRing_18 (by decide) ?_
      refine lv_goto (tgt := 23) hx hb dX2_onRing_19 (by decide) ?_
      refine lv_istore_n (lv' := [(3, .int 1), (0, .ref (ad 2)), (1, .int p0), (2, .int p1)]) hx hb dX2_onRing_23 rfl hl (by decide) rfl (fun ls hl => ?_)
      refine lv_iload_n hx hb dX2_onRing_24 rfl (lv_at hl 0 rfl) ?_
      refine lv_if_eq (tgt := 56) hx hb dX2_onRing_25 (by decide) (fun q => absurd q (by decide)) (fun _ => ?_)
      refine lv_iload_n hx hb dX2_onRing_28 rfl (lv_at hl 3 rfl) ?_
      refine lv_if_lt (tgt := 56) hx hb dX2_onRing_29 (by decide) (fun c11 => ?_) (fun c11 => ?_)
      · skip
        have f12 : p1.toInt < 0 := b_lt rfl (by decide) c11
        refine lv_iconst (v := (-1)) hx hb dX2_onRing_56 (by decide) ?_
        exact W.iret (v := (-1)) hx hb hr (fun t ht hW => ⟨⟨(-1), (), rfl, (by rw [cyF_n (fun h9 => by have h1 := h9.2.2.2.1; have h2 := h9.2.2.2.2.1; have h3 := h9.2.2.2.2.2; rw [fe9] at h1 h3; omega)]; decide), by rw [ht]; exact hP, va_K.moved hW.alike hK, hD⟩, hS.F ht⟩) hS.2.2 dX2_onRing_57
      · skip
        have f13 : 0 ≤ p1.toInt := b_nlt rfl (by decide) c11
        refine lv_iload_n hx hb dX2_onRing_32 rfl (lv_at hl 3 rfl) ?_
        refine lv_aload_n hx hb dX2_onRing_33 rfl (lv_at hl 1 rfl) ?_
        refine va_get (D := D) (ci := 2) (v := .ref (ad 14)) (fs := (xfChecker ad V L Z)) (C := RX2) (T := TX2) (N := 8) hx hb hg inX2 hown hK hP 2 xgChecker rfl 2 (by decide) (hg _ w340) (fun _ h9 => h9) rfl dX2_onRing_34 ?_
        refine lv_iload_n hx hb dX2_onRing_37 rfl (lv_at hl 2 rfl) ?_
        refine va_iald (D := D) (i := p0) hx hb hK hP 14 7 rfl rfl (i_in (a := p0.toInt) rfl (by first | omega | ((try (have i_flq := Imp.go flq (by omega))); omega))) dX2_onRing_38 ?_
        have r14 : (-100) ≤ ((V 17 (Int32.toNatClampNeg p0))).toInt ∧ ((V 17 (Int32.toNatClampNeg p0))).toInt ≤ 24 := hMV 17 (Int32.toNatClampNeg p0)
        refine lv_icmp_ge (tgt := 56) hx hb dX2_onRing_39 (by decide) (fun c15 => ?_) (fun c15 => ?_)
        · skip
          have f16 : ((V 17 (Int32.toNatClampNeg p0))).toInt ≤ p1.toInt := b_le rfl rfl c15
          refine lv_iconst (v := (-1)) hx hb dX2_onRing_56 (by decide) ?_
          exact W.iret (v := (-1)) hx hb hr (fun t ht hW => ⟨⟨(-1), (), rfl, (by rw [cyF_n (fun h9 => by have h1 := h9.2.2.2.1; have h2 := h9.2.2.2.2.1; have h3 := h9.2.2.2.2.2; rw [fe9] at h1 h3; omega)]; decide), by rw [ht]; exact hP, va_K.moved hW.alike hK, hD⟩, hS.F ht⟩) hS.2.2 dX2_onRing_57
        · skip
          have f17 : p1.toInt < ((V 17 (Int32.toNatClampNeg p0))).toInt := b_nle rfl rfl c15
          refine lv_aload_n hx hb dX2_onRing_42 rfl (lv_at hl 1 rfl) ?_
          refine va_get (D := D) (ci := 2) (v := .ref (ad 15)) (fs := (xfChecker ad V L Z)) (C := RX2) (T := TX2) (N := 8) hx hb hg inX2 hown hK hP 2 xgChecker rfl 3 (by decide) (hg _ w341) (fun _ h9 => h9) rfl dX2_onRing_43 ?_
          refine lv_iload_n hx hb dX2_onRing_46 rfl (lv_at hl 2 rfl) ?_
          refine lv_bipush (v := 24) hx hb dX2_onRing_47 (by decide) ?_
          refine lv_imul hx hb dX2_onRing_49 ?_
          refine lv_topi (fun z18 ez18 => ?_)
          have hz18 : z18.toInt = p0.toInt * 24 := i_mul ez18 rfl (by decide) (by omega)
          refine lv_iload_n hx hb dX2_onRing_50 rfl (lv_at hl 3 rfl) ?_
          refine lv_iadd hx hb dX2_onRing_51 ?_
          refine lv_topi (fun z19 ez19 => ?_)
          have hz19 : z19.toInt = z18.toInt + p1.toInt := i_add ez19 rfl rfl (by omega)
          refine va_iald (D := D) (i := z19) hx hb hK hP 15 8 rfl rfl (i_in (a := z19.toInt) rfl (by first | omega | ((try (have i_flq := Imp.go flq (by omega))); omega))) dX2_onRing_52 ?_
          refine lv_goto (tgt := 57) hx hb dX2_onRing_53 (by decide) ?_
          have kq9 := i_clamp (x := p1) rfl (by (first | exact om_eafa9039069c f13 | omega))
          have rz9 : Int32.toNatClampNeg z19 = 24 * Int32.toNatClampNeg p0 + Int32.toNatClampNeg p1 := by have h9 := i_clamp (x := z19) rfl (by (first | exact om_6460ebfc0e3d kk9 f13 hz18 hz19 | omega)); (first | exact om_add7d9e78a51 kk9 hz18 hz19 kq9 h9 | omega)
          exact W.iret (v := (V 18 (Int32.toNatClampNeg z19))) hx hb hr (fun t ht hW => ⟨⟨(V 18 (Int32.toNatClampNeg z19)), (), rfl, (by rw [cyF_y (a := Int32.toNatClampNeg p0) (b := Int32.toNatClampNeg p1) (by omega) (by omega) (by omega) (by omega) (by omega) (by omega)]; have h9 := fk9.2.2.2 (by omega) (Int32.toNatClampNeg p1) (by omega); rw [← rz9] at h9; exact h9), by rw [ht]; exact hP, va_K.moved hW.alike hK, hD⟩, hS.F ht⟩) hS.2.2 dX2_onRing_57
abbrev r_x_h_fault7 : Room := { frames := 2, cells := 0, slots := 0, locals := 43 }
abbrev q_x_h_fault7 (D : va_G) (ks : KS) (ad : Nat → Nat) (kk : Nat → ClassId) (V : Vf) (L : Lf) (Z : XZ) (p0 : Int32) (p1 : Int32) (gF : FSt) (A : Nat → Prop) : Array Value → State → Outcome → State → Prop := va_Qi (fun (r : Int32) (_ : Unit) => (r.toInt = flF gF p0.toInt p1.toInt)) (fun _ t => gq D A (xw ad kk V L Z) (xty kk Z) t) A
set_option maxHeartbeats 4000000 in
set_option maxRecDepth 100000 in
theorem x_h_fault7 (l : Launch) (D : va_G) (ks : KS) (sz : Nat) (ad : Nat → Nat) (kk : Nat → ClassId) (V : Vf) (L : Lf) (Z : XZ) (p0 : Int32) (p1 : Int32) (gF : FSt) (hMV : rgd bX V) (flq : FLc V gF)  : Met l yX11_fault (Cond.code yX11_fault cX11_fault 3 (some .int) :: GW) r_x_h_fault7 (va_Pc [.ref (ad 0), .int p0, .int p1] (gp D ks (xw ad kk V L Z) (xty kk Z) sz)) (q_x_h_fault7 D ks ad kk V L Z p0 p1 gF (va_A (xw ad kk V L Z) sz)) 0 0 (va_A (xw ad kk V L Z) sz) := by
  refine g_met (q_x_h_fault7 D ks ad kk V L Z p0 p1 gF) (by decide) (Nat.le_of_ble_eq_true rfl) ?_
  intro p e s m below meth c A ls H locs hx hb hr hml hown hg hlocks hin hnw hgk hP hK hD hS hA hl
  have hown : s.vm.findClass RX11 = some m.cls := hown
  have hl : lv_has ls 3 [(0, .ref (ad 0)), (1, .int p0), (2, .int p1)] := hl
  have hP : va_P D vwCl (xw ad kk V L Z) H := hP
  have hD : va_D A (xw ad kk V L Z) := hD
  have hK : va_K D vwCl (xty kk Z) s := hK
  refine lv_aload_n hx hb dX11_fault_0 rfl (lv_at hl 0 rfl) ?_
  refine va_get (D := D) (ci := 11) (v := .ref (ad 2)) (fs := (xfHouse ad V L Z)) (C := RX11) (T := TX11) (N := 10) hx hb hg inX11 hown hK hP 0 xgHouse rfl 2 (by decide) (hg _ w717) (fun _ h9 => h9) rfl dX11_fault_1 ?_
  refine lv_iload_n hx hb dX11_fault_4 rfl (lv_at hl 1 rfl) ?_
  refine lv_iload_n hx hb dX11_fault_5 rfl (lv_at hl 2 rfl) ?_
  refine gA_int (gA_runV (As := [.int p0, .int p1]) (rest := []) (ci := 2) (q0 := 2) hx hb hml hown hg hP hD hK hS hA hnw hgk (x_tell7 l D ks H.size ad kk V L Z p0 p1 (gF) hMV flq) w1117 w1118 w1119 w163 w1120 rfl xgChecker hdV_yX2_tell ⟨Nat.le_of_ble_eq_true rfl, Nat.le_of_ble_eq_true rfl⟩ rfl hl.1 rfl (Nat.le_of_ble_eq_true rfl) dX11_fault_6 ⟨Nat.le_of_ble_eq_true rfl, Nat.le_of_ble_eq_true rfl⟩) hP hD hK hS hA (fun z1 u2 H locs w3 hP hD hK hS => ?_)
  have t4 := w3
  have t4 : z1.toInt = flF gF p0.toInt p1.toInt := t4
  exact W.iret (v := z1) hx hb hr (fun t ht hW => ⟨⟨z1, (), rfl, t4, by rw [ht]; exact hP, va_K.moved hW.alike hK, hD⟩, hS.F ht⟩) hS.2.2 dX11_fault_9
abbrev r_x_h_cycle7 : Room := { frames := 2, cells := 0, slots := 0, locals := 44 }
abbrev q_x_h_cycle7 (D : va_G) (ks : KS) (ad : Nat → Nat) (kk : Nat → ClassId) (V : Vf) (L : Lf) (Z : XZ) (p0 : Int32) (p1 : Int32) (gF : FSt) (A : Nat → Prop) : Array Value → State → Outcome → State → Prop := va_Qi (fun (r : Int32) (_ : Unit) => (r.toInt = cyF gF p0.toInt p1.toInt)) (fun _ t => gq D A (xw ad kk V L Z) (xty kk Z) t) A
set_option maxHeartbeats 4000000 in
set_option maxRecDepth 100000 in
theorem x_h_cycle7 (l : Launch) (D : va_G) (ks : KS) (sz : Nat) (ad : Nat → Nat) (kk : Nat → ClassId) (V : Vf) (L : Lf) (Z : XZ) (p0 : Int32) (p1 : Int32) (gF : FSt) (hMV : rgd bX V) (flq : FLc V gF)  : Met l yX11_cycle (Cond.code yX11_cycle cX11_cycle 3 (some .int) :: GW) r_x_h_cycle7 (va_Pc [.ref (ad 0), .int p0, .int p1] (gp D ks (xw ad kk V L Z) (xty kk Z) sz)) (q_x_h_cycle7 D ks ad kk V L Z p0 p1 gF (va_A (xw ad kk V L Z) sz)) 0 0 (va_A (xw ad kk V L Z) sz) := by
  refine g_met (q_x_h_cycle7 D ks ad kk V L Z p0 p1 gF) (by decide) (Nat.le_of_ble_eq_true rfl) ?_
  intro p e s m below meth c A ls H locs hx hb hr hml hown hg hlocks hin hnw hgk hP hK hD hS hA hl
  have hown : s.vm.findClass RX11 = some m.cls := hown
  have hl : lv_has ls 3 [(0, .ref (ad 0)), (1, .int p0), (2, .int p1)] := hl
  have hP : va_P D vwCl (xw ad kk V L Z) H := hP
  have hD : va_D A (xw ad kk V L Z) := hD
  have hK : va_K D vwCl (xty kk Z) s := hK
  refine lv_aload_n hx hb dX11_cycle_0 rfl (lv_at hl 0 rfl) ?_
  refine va_get (D := D) (ci := 11) (v := .ref (ad 2)) (fs := (xfHouse ad V L Z)) (C := RX11) (T := TX11) (N := 10) hx hb hg inX11 hown hK hP 0 xgHouse rfl 2 (by decide) (hg _ w717) (fun _ h9 => h9) rfl dX11_cycle_1 ?_
  refine lv_iload_n hx hb dX11_cycle_4 rfl (lv_at hl 1 rfl) ?_
  refine lv_iload_n hx hb dX11_cycle_5 rfl (lv_at hl 2 rfl) ?_
  refine gA_int (gA_runV (As := [.int p0, .int p1]) (rest := []) (ci := 2) (q0 := 2) hx hb hml hown hg hP hD hK hS hA hnw hgk (x_onRing7 l D ks H.size ad kk V L Z p0 p1 (gF) hMV flq) w1129 w1130 w1131 w163 w1132 rfl xgChecker hdV_yX2_onRing ⟨Nat.le_of_ble_eq_true rfl, Nat.le_of_ble_eq_true rfl⟩ rfl hl.1 rfl (Nat.le_of_ble_eq_true rfl) dX11_cycle_6 ⟨Nat.le_of_ble_eq_true rfl, Nat.le_of_ble_eq_true rfl⟩) hP hD hK hS hA (fun z1 u2 H locs w3 hP hD hK hS => ?_)
  have t4 := w3
  have t4 : z1.toInt = cyF gF p0.toInt p1.toInt := t4
  exact W.iret (v := z1) hx hb hr (fun t ht hW => ⟨⟨z1, (), rfl, t4, by rw [ht]; exact hP, va_K.moved hW.alike hK, hD⟩, hS.F ht⟩) hS.2.2 dX11_cycle_9
abbrev r_s_fault7 : Room := { frames := 0, cells := 0, slots := 0, locals := 0 }
abbrev q_s_fault7 (D : va_G) (ks : KS) (ad : Nat → Nat) (kk : Nat → ClassId) (V : Vf) (L : Lf) (p0 : Int32) (p1 : Int32) (gF : FSt) (A : Nat → Prop) : Array Value → State → Outcome → State → Prop := va_Qi (fun (r : Int32) (u : Vf × Lf) => rgd bM u.1 ∧ agr [(0, 0)] [] V u.1 ∧ u.2 = L ∧ (r.toInt = flF gF p0.toInt p1.toInt)) (fun u t => gq D A (mw ad kk ks.1 u.1 u.2) (mty kk) t) A
set_option maxHeartbeats 4000000 in
set_option maxRecDepth 100000 in
theorem s_fault7 (l : Launch) (D : va_G) (ks : KS) (sz : Nat) (ad : Nat → Nat) (kk : Nat → ClassId) (V : Vf) (L : Lf) (p0 : Int32) (p1 : Int32) (gF : FSt) (hMV : rgd bM V) (flq : FLm V gF)  : Met l yX12_fault (Cond.code yX12_fault cX12_fault 3 (some .int) :: GW) r_s_fault7 (va_Pc [.ref (ad 0), .int p0, .int p1] (gp D ks (mw ad kk ks.1 V L) (mty kk) sz)) (q_s_fault7 D ks ad kk V L p0 p1 gF (va_A (mw ad kk ks.1 V L) sz)) 0 0 (va_A (mw ad kk ks.1 V L) sz) := by
  refine g_met (q_s_fault7 D ks ad kk V L p0 p1 gF) (by decide) (Nat.le_of_ble_eq_true rfl) ?_
  intro p e s m below meth c A ls H locs hx hb hr hml hown hg hlocks hin hnw hgk hP hK hD hS hA hl
  have hown : s.vm.findClass RX12 = some m.cls := hown
  have hl : lv_has ls 3 [(0, .ref (ad 0)), (1, .int p0), (2, .int p1)] := hl
  have hP : va_P D vwCl (mw ad kk ks.1 V L) H := hP
  have hD : va_D A (mw ad kk ks.1 V L) := hD
  have hK : va_K D vwCl (mty kk) s := hK
  have agV : agr [(0, 0)] [] V V := agr.rf
  have fn0 := flq.n
  refine lv_aload_n hx hb dX12_fault_0 rfl (lv_at hl 0 rfl) ?_
  refine lv_iconst (v := 0) hx hb dX12_fault_1 (by decide) ?_
  refine va_put (D := D) (ci := 12) (v := .int 0) (ty := tyX12 0) (C := RX12) (T := TX12) (N := 100) hx hb hg inX12 tyX12 tyX12_ok nmX12 hown hK hP hD hS 0 rfl rfl 0 (by decide) (hg _ w1706) (fun _ h9 => h9) rfl (tyX12_ok 0 (by decide)) rfl rfl (Nat.le_of_ble_eq_true rfl) dX12_fault_2 (fun H locs hP hD hS => ?_)
  obtain ⟨V1, hV1⟩ : ∃ z, z = up2 V 0 0 0 := ⟨_, rfl⟩
  have hP : va_P D vwCl (mw ad kk ks.1 V1 L) H := by rw [hV1]; exact hP
  have hD : va_D A (mw ad kk ks.1 V1 L) := by rw [hV1]; exact hD
  have hMV1 : rgd bM V1 := hMV.put hV1 (i_full _)
  have agV1 : agr [(0, 0)] [] V V1 := agV.up hV1 rfl
  refine lv_iload_n hx hb dX12_fault_5 rfl (lv_at hl 1 rfl) ?_
  refine lv_if_lt (tgt := 23) hx hb dX12_fault_6 (by decide) (fun c2 => ?_) (fun c2 => ?_)
  · skip
    have f3 : p0.toInt < 0 := b_lt rfl (by decide) c2
    refine lv_iconst (v := (-1)) hx hb dX12_fault_23 (by decide) ?_
    exact W.iret (v := (-1)) hx hb hr (fun t ht hW => ⟨⟨(-1), (V1, L), rfl, ⟨hMV1, agV1, rfl, (by rw [flF_n (by omega)]; decide)⟩, by rw [ht]; exact hP, va_K.moved hW.alike hK, hD⟩, hS.F ht⟩) hS.2.2 dX12_fault_24
  · skip
    have f4 : 0 ≤ p0.toInt := b_nlt rfl (by decide) c2
    refine lv_iload_n hx hb dX12_fault_9 rfl (lv_at hl 1 rfl) ?_
    refine lv_aload_n hx hb dX12_fault_10 rfl (lv_at hl 0 rfl) ?_
    refine va_get (D := D) (ci := 12) (v := .int (V1 0 81)) (C := RX12) (T := TX12) (N := 100) hx hb hg inX12 hown hK hP 0 rfl rfl 81 (by decide) (hg _ w1787) (fun _ h9 => h9) rfl dX12_fault_11 ?_
    refine g_top (v := (V 0 81)) (up2_k hV1 (by decide)) ?_
    have r5 : 0 ≤ ((V 0 81)).toInt ∧ ((V 0 81)).toInt ≤ 1000000 := hMV 0 81
    refine lv_icmp_ge (tgt := 23) hx hb dX12_fault_14 (by decide) (fun c6 => ?_) (fun c6 => ?_)
    · skip
      have f7 : ((V 0 81)).toInt ≤ p0.toInt := b_le rfl rfl c6
      refine lv_iconst (v := (-1)) hx hb dX12_fault_23 (by decide) ?_
      exact W.iret (v := (-1)) hx hb hr (fun t ht hW => ⟨⟨(-1), (V1, L), rfl, ⟨hMV1, agV1, rfl, (by rw [flF_n (by omega)]; decide)⟩, by rw [ht]; exact hP, va_K.moved hW.alike hK, hD⟩, hS.F ht⟩) hS.2.2 dX12_fault_24
    · skip
      have f8 : p0.toInt < ((V 0 81)).toInt := b_nle rfl rfl c6
      refine lv_iload_n hx hb dX12_fault_17 rfl (lv_at hl 1 rfl) ?_
      refine lv_bipush (v := 100) hx hb dX12_fault_18 (by decide) ?_
      refine lv_icmp_lt (tgt := 25) hx hb dX12_fault_20 (by decide) (fun c9 => ?_) (fun c9 => ?_)
      · skip
        have f10 : p0.toInt < 100 := b_lt rfl (by decide) c9
        have kk9 := i_clamp (x := p0) rfl (by (first | exact om_eafa9039069c f4 | omega))
        have fk9 := flq.1.2 (Int32.toNatClampNeg p0) (by omega) (by omega)
        have fe9 : p0.toInt.toNat = Int32.toNatClampNeg p0 := rfl
        refine lv_iload_n hx hb dX12_fault_25 rfl (lv_at hl 2 rfl) ?_
        refine lv_if_ne (tgt := 38) hx hb dX12_fault_26 (by decide) (fun c11 => ?_) (fun c11 => ?_)
        · skip
          have f12 : p1.toInt ≠ 0 := b_neq rfl (by decide) c11
          refine lv_iload_n hx hb dX12_fault_38 rfl (lv_at hl 2 rfl) ?_
          refine lv_iconst (v := 1) hx hb dX12_fault_39 (by decide) ?_
          refine lv_icmp_ne (tgt := 52) hx hb dX12_fault_40 (by decide) (fun c13 => ?_) (fun c13 => ?_)
          · skip
            have f14 : p1.toInt ≠ 1 := b_neq rfl (by decide) c13
            refine lv_iload_n hx hb dX12_fault_52 rfl (lv_at hl 2 rfl) ?_
            refine lv_iconst (v := 2) hx hb dX12_fault_53 (by decide) ?_
            refine lv_icmp_ne (tgt := 66) hx hb dX12_fault_54 (by decide) (fun c15 => ?_) (fun c15 => ?_)
            · skip
              have f16 : p1.toInt ≠ 2 := b_neq rfl (by decide) c15
              refine lv_iconst (v := (-1)) hx hb dX12_fault_66 (by decide) ?_
              exact W.iret (v := (-1)) hx hb hr (fun t ht hW => ⟨⟨(-1), (V1, L), rfl, ⟨hMV1, agV1, rfl, (by rw [flF_n (by omega)]; decide)⟩, by rw [ht]; exact hP, va_K.moved hW.alike hK, hD⟩, hS.F ht⟩) hS.2.2 dX12_fault_67
            · skip
              have f17 : p1.toInt = 2 := b_eq rfl (by decide) c15
              refine lv_aload_n hx hb dX12_fault_57 rfl (lv_at hl 0 rfl) ?_
              refine va_get (D := D) (ci := 12) (v := .ref (ad 84)) (C := RX12) (T := TX12) (N := 100) hx hb hg inX12 hown hK hP 0 rfl rfl 84 (by decide) (hg _ w1790) (fun _ h9 => h9) rfl dX12_fault_58 ?_
              refine lv_iload_n hx hb dX12_fault_61 rfl (lv_at hl 1 rfl) ?_
              refine va_iald (D := D) (i := p0) hx hb hK hP 60 59 rfl rfl (i_in (a := p0.toInt) rfl (by (first | exact om_84fa328245f5 f4 f10 | omega))) dX12_fault_62 ?_
              refine g_top (v := (V 84 (Int32.toNatClampNeg p0))) (up2_o hV1 (by decide)) ?_
              have r18 : (-1) ≤ ((V 84 (Int32.toNatClampNeg p0))).toInt ∧ ((V 84 (Int32.toNatClampNeg p0))).toInt ≤ 24 := hMV 84 (Int32.toNatClampNeg p0)
              refine lv_goto (tgt := 67) hx hb dX12_fault_63 (by decide) ?_
              exact W.iret (v := (V 84 (Int32.toNatClampNeg p0))) hx hb hr (fun t ht hW => ⟨⟨(V 84 (Int32.toNatClampNeg p0)), (V1, L), rfl, ⟨hMV1, agV1, rfl, (by rw [flF_y (k := Int32.toNatClampNeg p0) (j := 2) (by omega) (by omega) (by omega) (by omega) (by decide)]; exact fk9.2.2.1)⟩, by rw [ht]; exact hP, va_K.moved hW.alike hK, hD⟩, hS.F ht⟩) hS.2.2 dX12_fault_67
          · skip
            have f19 : p1.toInt = 1 := b_eq rfl (by decide) c13
            refine lv_aload_n hx hb dX12_fault_43 rfl (lv_at hl 0 rfl) ?_
            refine va_get (D := D) (ci := 12) (v := .ref (ad 83)) (C := RX12) (T := TX12) (N := 100) hx hb hg inX12 hown hK hP 0 rfl rfl 83 (by decide) (hg _ w1789) (fun _ h9 => h9) rfl dX12_fault_44 ?_
            refine lv_iload_n hx hb dX12_fault_47 rfl (lv_at hl 1 rfl) ?_
            refine va_iald (D := D) (i := p0) hx hb hK hP 59 58 rfl rfl (i_in (a := p0.toInt) rfl (by (first | exact om_84fa328245f5 f4 f10 | omega))) dX12_fault_48 ?_
            refine g_top (v := (V 83 (Int32.toNatClampNeg p0))) (up2_o hV1 (by decide)) ?_
            refine lv_goto (tgt := 67) hx hb dX12_fault_49 (by decide) ?_
            exact W.iret (v := (V 83 (Int32.toNatClampNeg p0))) hx hb hr (fun t ht hW => ⟨⟨(V 83 (Int32.toNatClampNeg p0)), (V1, L), rfl, ⟨hMV1, agV1, rfl, (by rw [flF_y (k := Int32.toNatClampNeg p0) (j := 1) (by omega) (by omega) (by omega) (by omega) (by decide)]; exact fk9.2.1)⟩, by rw [ht]; exact hP, va_K.moved hW.alike hK, hD⟩, hS.F ht⟩) hS.2.2 dX12_fault_67
        · skip
          have f20 : p1.toInt = 0 := b_eq rfl (by decide) c11
          refine lv_aload_n hx hb dX12_fault_29 rfl (lv_at hl 0 rfl) ?_
          refine va_get (D := D) (ci := 12) (v := .ref (ad 82)) (C := RX12) (T := TX12) (N := 100) hx hb hg inX12 hown hK hP 0 rfl rfl 82 (by decide) (hg _ w1788) (fun _ h9 => h9) rfl dX12_fault_30 ?_
          refine lv_iload_n hx hb dX12_fault_33 rfl (lv_at hl 1 rfl) ?_
          refine va_iald (D := D) (i := p0) hx hb hK hP 58 57 rfl rfl (i_in (a := p0.toInt) rfl (by (first | exact om_84fa328245f5 f4 f10 | omega))) dX12_fault_34 ?_
          refine g_top (v := (V 82 (Int32.toNatClampNeg p0))) (up2_o hV1 (by decide)) ?_
          refine lv_goto (tgt := 67) hx hb dX12_fault_35 (by decide) ?_
          exact W.iret (v := (V 82 (Int32.toNatClampNeg p0))) hx hb hr (fun t ht hW => ⟨⟨(V 82 (Int32.toNatClampNeg p0)), (V1, L), rfl, ⟨hMV1, agV1, rfl, (by rw [flF_y (k := Int32.toNatClampNeg p0) (j := 0) (by omega) (by omega) (by omega) (by omega) (by decide)]; exact fk9.1)⟩, by rw [ht]; exact hP, va_K.moved hW.alike hK, hD⟩, hS.F ht⟩) hS.2.2 dX12_fault_67
      · skip
        have f21 : 100 ≤ p0.toInt := b_nlt rfl (by decide) c9
        refine lv_iconst (v := (-1)) hx hb dX12_fault_23 (by decide) ?_
        exact W.iret (v := (-1)) hx hb hr (fun t ht hW => ⟨⟨(-1), (V1, L), rfl, ⟨hMV1, agV1, rfl, (by rw [flF_n (by omega)]; decide)⟩, by rw [ht]; exact hP, va_K.moved hW.alike hK, hD⟩, hS.F ht⟩) hS.2.2 dX12_fault_24
abbrev r_s_cycle7 : Room := { frames := 0, cells := 0, slots := 0, locals := 0 }
abbrev q_s_cycle7 (D : va_G) (ks : KS) (ad : Nat → Nat) (kk : Nat → ClassId) (V : Vf) (L : Lf) (p0 : Int32) (p1 : Int32) (gF : FSt) (A : Nat → Prop) : Array Value → State → Outcome → State → Prop := va_Qi (fun (r : Int32) (u : Vf × Lf) => rgd bM u.1 ∧ agr [(0, 0)] [] V u.1 ∧ u.2 = L ∧ (r.toInt = cyF gF p0.toInt p1.toInt)) (fun u t => gq D A (mw ad kk ks.1 u.1 u.2) (mty kk) t) A
set_option maxHeartbeats 4000000 in
set_option maxRecDepth 100000 in
theorem s_cycle7 (l : Launch) (D : va_G) (ks : KS) (sz : Nat) (ad : Nat → Nat) (kk : Nat → ClassId) (V : Vf) (L : Lf) (p0 : Int32) (p1 : Int32) (gF : FSt) (hMV : rgd bM V) (flq : FLm V gF)  : Met l yX12_cycle (Cond.code yX12_cycle cX12_cycle 3 (some .int) :: GW) r_s_cycle7 (va_Pc [.ref (ad 0), .int p0, .int p1] (gp D ks (mw ad kk ks.1 V L) (mty kk) sz)) (q_s_cycle7 D ks ad kk V L p0 p1 gF (va_A (mw ad kk ks.1 V L) sz)) 0 0 (va_A (mw ad kk ks.1 V L) sz) := by
  refine g_met (q_s_cycle7 D ks ad kk V L p0 p1 gF) (by decide) (Nat.le_of_ble_eq_true rfl) ?_
  intro p e s m below meth c A ls H locs hx hb hr hml hown hg hlocks hin hnw hgk hP hK hD hS hA hl
  have hown : s.vm.findClass RX12 = some m.cls := hown
  have hl : lv_has ls 3 [(0, .ref (ad 0)), (1, .int p0), (2, .int p1)] := hl
  have hP : va_P D vwCl (mw ad kk ks.1 V L) H := hP
  have hD : va_D A (mw ad kk ks.1 V L) := hD
  have hK : va_K D vwCl (mty kk) s := hK
  have agV : agr [(0, 0)] [] V V := agr.rf
  have fn0 := flq.n
  refine lv_aload_n hx hb dX12_cycle_0 rfl (lv_at hl 0 rfl) ?_
  refine lv_iconst (v := 0) hx hb dX12_cycle_1 (by decide) ?_
  refine va_put (D := D) (ci := 12) (v := .int 0) (ty := tyX12 0) (C := RX12) (T := TX12) (N := 100) hx hb hg inX12 tyX12 tyX12_ok nmX12 hown hK hP hD hS 0 rfl rfl 0 (by decide) (hg _ w1706) (fun _ h9 => h9) rfl (tyX12_ok 0 (by decide)) rfl rfl (Nat.le_of_ble_eq_true rfl) dX12_cycle_2 (fun H locs hP hD hS => ?_)
  obtain ⟨V1, hV1⟩ : ∃ z, z = up2 V 0 0 0 := ⟨_, rfl⟩
  have hP : va_P D vwCl (mw ad kk ks.1 V1 L) H := by rw [hV1]; exact hP
  have hD : va_D A (mw ad kk ks.1 V1 L) := by rw [hV1]; exact hD
  have hMV1 : rgd bM V1 := hMV.put hV1 (i_full _)
  have agV1 : agr [(0, 0)] [] V V1 := agV.up hV1 rfl
  refine lv_iload_n hx hb dX12_cycle_5 rfl (lv_at hl 1 rfl) ?_
  refine lv_if_lt (tgt := 47) hx hb dX12_cycle_6 (by decide) (fun c2 => ?_) (fun c2 => ?_)
  · skip
    have f3 : p0.toInt < 0 := b_lt rfl (by decide) c2
    refine lv_iconst (v := (-1)) hx hb dX12_cycle_47 (by decide) ?_
    exact W.iret (v := (-1)) hx hb hr (fun t ht hW => ⟨⟨(-1), (V1, L), rfl, ⟨hMV1, agV1, rfl, (by rw [cyF_n (by omega)]; decide)⟩, by rw [ht]; exact hP, va_K.moved hW.alike hK, hD⟩, hS.F ht⟩) hS.2.2 dX12_cycle_48
  · skip
    have f4 : 0 ≤ p0.toInt := b_nlt rfl (by decide) c2
    refine lv_iload_n hx hb dX12_cycle_9 rfl (lv_at hl 1 rfl) ?_
    refine lv_aload_n hx hb dX12_cycle_10 rfl (lv_at hl 0 rfl) ?_
    refine va_get (D := D) (ci := 12) (v := .int (V1 0 81)) (C := RX12) (T := TX12) (N := 100) hx hb hg inX12 hown hK hP 0 rfl rfl 81 (by decide) (hg _ w1787) (fun _ h9 => h9) rfl dX12_cycle_11 ?_
    refine g_top (v := (V 0 81)) (up2_k hV1 (by decide)) ?_
    have r5 : 0 ≤ ((V 0 81)).toInt ∧ ((V 0 81)).toInt ≤ 1000000 := hMV 0 81
    refine lv_icmp_ge (tgt := 47) hx hb dX12_cycle_14 (by decide) (fun c6 => ?_) (fun c6 => ?_)
    · skip
      have f7 : ((V 0 81)).toInt ≤ p0.toInt := b_le rfl rfl c6
      refine lv_iconst (v := (-1)) hx hb dX12_cycle_47 (by decide) ?_
      exact W.iret (v := (-1)) hx hb hr (fun t ht hW => ⟨⟨(-1), (V1, L), rfl, ⟨hMV1, agV1, rfl, (by rw [cyF_n (by omega)]; decide)⟩, by rw [ht]; exact hP, va_K.moved hW.alike hK, hD⟩, hS.F ht⟩) hS.2.2 dX12_cycle_48
    · skip
      have f8 : p0.toInt < ((V 0 81)).toInt := b_nle rfl rfl c6
      refine lv_iload_n hx hb dX12_cycle_17 rfl (lv_at hl 1 rfl) ?_
      refine lv_bipush (v := 100) hx hb dX12_cycle_18 (by decide) ?_
      refine lv_icmp_ge (tgt := 47) hx hb dX12_cycle_20 (by decide) (fun c9 => ?_) (fun c9 => ?_)
      · skip
        have f10 : 100 ≤ p0.toInt := b_le (by decide) rfl c9
        refine lv_iconst (v := (-1)) hx hb dX12_cycle_47 (by decide) ?_
        exact W.iret (v := (-1)) hx hb hr (fun t ht hW => ⟨⟨(-1), (V1, L), rfl, ⟨hMV1, agV1, rfl, (by rw [cyF_n (by omega)]; decide)⟩, by rw [ht]; exact hP, va_K.moved hW.alike hK, hD⟩, hS.F ht⟩) hS.2.2 dX12_cycle_48
      · skip
        have f11 : p0.toInt < 100 := b_nle (by decide) rfl c9
        have kk9 := i_clamp (x := p0) rfl (by (first | exact om_eafa9039069c f4 | omega))
        have fk9 := flq.1.2 (Int32.toNatClampNeg p0) (by omega) (by omega)
        have fe9 : p0.toInt.toNat = Int32.toNatClampNeg p0 := rfl
        refine lv_aload_n hx hb dX12_cycle_23 rfl (lv_at hl 0 rfl) ?_
        refine va_get (D := D) (ci := 12) (v := .ref (ad 82)) (C := RX12) (T := TX12) (N := 100) hx hb hg inX12 hown hK hP 0 rfl rfl 82 (by decide) (hg _ w1788) (fun _ h9 => h9) rfl dX12_cycle_24 ?_
        refine lv_iload_n hx hb dX12_cycle_27 rfl (lv_at hl 1 rfl) ?_
        refine va_iald (D := D) (i := p0) hx hb hK hP 58 57 rfl rfl (i_in (a := p0.toInt) rfl (by (first | exact om_84fa328245f5 f4 f11 | omega))) dX12_cycle_28 ?_
        refine g_top (v := (V 82 (Int32.toNatClampNeg p0))) (up2_o hV1 (by decide)) ?_
        refine lv_iconst (v := 3) hx hb dX12_cycle_29 (by decide) ?_
        refine lv_icmp_ne (tgt := 47) hx hb dX12_cycle_30 (by decide) (fun c12 => ?_) (fun c12 => ?_)
        · skip
          have f13 : ((V 82 (Int32.toNatClampNeg p0))).toInt ≠ 3 := b_neq rfl (by decide) c12
          refine lv_iconst (v := (-1)) hx hb dX12_cycle_47 (by decide) ?_
          exact W.iret (v := (-1)) hx hb hr (fun t ht hW => ⟨⟨(-1), (V1, L), rfl, ⟨hMV1, agV1, rfl, (by rw [cyF_n (fun h9 => by have h1 := h9.2.2.2.1; have h2 := h9.2.2.2.2.1; have h3 := h9.2.2.2.2.2; rw [fe9] at h1 h3; omega)]; decide)⟩, by rw [ht]; exact hP, va_K.moved hW.alike hK, hD⟩, hS.F ht⟩) hS.2.2 dX12_cycle_48
        · skip
          have f14 : ((V 82 (Int32.toNatClampNeg p0))).toInt = 3 := b_eq rfl (by decide) c12
          refine lv_iload_n hx hb dX12_cycle_33 rfl (lv_at hl 2 rfl) ?_
          refine lv_if_lt (tgt := 47) hx hb dX12_cycle_34 (by decide) (fun c15 => ?_) (fun c15 => ?_)
          · skip
            have f16 : p1.toInt < 0 := b_lt rfl (by decide) c15
            refine lv_iconst (v := (-1)) hx hb dX12_cycle_47 (by decide) ?_
            exact W.iret (v := (-1)) hx hb hr (fun t ht hW => ⟨⟨(-1), (V1, L), rfl, ⟨hMV1, agV1, rfl, (by rw [cyF_n (fun h9 => by have h1 := h9.2.2.2.1; have h2 := h9.2.2.2.2.1; have h3 := h9.2.2.2.2.2; rw [fe9] at h1 h3; omega)]; decide)⟩, by rw [ht]; exact hP, va_K.moved hW.alike hK, hD⟩, hS.F ht⟩) hS.2.2 dX12_cycle_48
          · skip
            have f17 : 0 ≤ p1.toInt := b_nlt rfl (by decide) c15
            refine lv_iload_n hx hb dX12_cycle_37 rfl (lv_at hl 2 rfl) ?_
            refine lv_aload_n hx hb dX12_cycle_38 rfl (lv_at hl 0 rfl) ?_
            refine va_get (D := D) (ci := 12) (v := .ref (ad 84)) (C := RX12) (T := TX12) (N := 100) hx hb hg inX12 hown hK hP 0 rfl rfl 84 (by decide) (hg _ w1790) (fun _ h9 => h9) rfl dX12_cycle_39 ?_
            refine lv_iload_n hx hb dX12_cycle_42 rfl (lv_at hl 1 rfl) ?_
            refine va_iald (D := D) (i := p0) hx hb hK hP 60 59 rfl rfl (i_in (a := p0.toInt) rfl (by (first | exact om_84fa328245f5 f4 f11 | omega))) dX12_cycle_43 ?_
            refine g_top (v := (V 84 (Int32.toNatClampNeg p0))) (up2_o hV1 (by decide)) ?_
            have r18 : (-1) ≤ ((V 84 (Int32.toNatClampNeg p0))).toInt ∧ ((V 84 (Int32.toNatClampNeg p0))).toInt ≤ 24 := hMV 84 (Int32.toNatClampNeg p0)
            refine lv_icmp_lt (tgt := 49) hx hb dX12_cycle_44 (by decide) (fun c19 => ?_) (fun c19 => ?_)
            · skip
              have f20 : p1.toInt < ((V 84 (Int32.toNatClampNeg p0))).toInt := b_lt rfl rfl c19
              refine lv_aload_n hx hb dX12_cycle_49 rfl (lv_at hl 0 rfl) ?_
              refine va_get (D := D) (ci := 12) (v := .ref (ad 85)) (C := RX12) (T := TX12) (N := 100) hx hb hg inX12 hown hK hP 0 rfl rfl 85 (by decide) (hg _ w1791) (fun _ h9 => h9) rfl dX12_cycle_50 ?_
              refine lv_bipush (v := 24) hx hb dX12_cycle_53 (by decide) ?_
              refine lv_iload_n hx hb dX12_cycle_55 rfl (lv_at hl 1 rfl) ?_
              refine lv_imul hx hb dX12_cycle_56 ?_
              refine lv_topi (fun z21 ez21 => ?_)
              have hz21 : z21.toInt = 24 * p0.toInt := i_mul ez21 (by decide) rfl (by (first | exact om_0975071f571e f4 f11 | omega))
              refine lv_iload_n hx hb dX12_cycle_57 rfl (lv_at hl 2 rfl) ?_
              refine lv_iadd hx hb dX12_cycle_58 ?_
              refine lv_topi (fun z22 ez22 => ?_)
              have hz22 : z22.toInt = z21.toInt + p1.toInt := i_add ez22 rfl rfl (by (first | exact om_033ff5f95ac9 f4 f11 f17 r18.2 f20 hz21 | omega))
              refine va_iald (D := D) (i := z22) hx hb hK hP 61 60 rfl rfl (i_in (a := z22.toInt) rfl (by (first | exact om_09d9a1981500 f4 f11 f17 r18.2 f20 hz21 hz22 | omega))) dX12_cycle_59 ?_
              refine g_top (v := (V 85 (Int32.toNatClampNeg z22))) (up2_o hV1 (by decide)) ?_
              have kq9 := i_clamp (x := p1) rfl (by (first | exact om_eafa9039069c f17 | omega))
              have rz9 : Int32.toNatClampNeg z22 = 24 * Int32.toNatClampNeg p0 + Int32.toNatClampNeg p1 := by have h9 := i_clamp (x := z22) rfl (by (first | exact om_19aed6992cbe f4 f17 hz21 hz22 | omega)); (first | exact om_2ce6b7e4456b f4 fe9 hz21 hz22 kq9 h9 | omega)
              exact W.iret (v := (V 85 (Int32.toNatClampNeg z22))) hx hb hr (fun t ht hW => ⟨⟨(V 85 (Int32.toNatClampNeg z22)), (V1, L), rfl, ⟨hMV1, agV1, rfl, (by rw [cyF_y (a := Int32.toNatClampNeg p0) (b := Int32.toNatClampNeg p1) (by omega) (by omega) (by omega) (by omega) (by omega) (by omega)]; have h9 := fk9.2.2.2 (by omega) (Int32.toNatClampNeg p1) (by omega); rw [← rz9] at h9; exact h9)⟩, by rw [ht]; exact hP, va_K.moved hW.alike hK, hD⟩, hS.F ht⟩) hS.2.2 dX12_cycle_60
            · skip
              have f23 : ((V 84 (Int32.toNatClampNeg p0))).toInt ≤ p1.toInt := b_nlt rfl rfl c19
              refine lv_iconst (v := (-1)) hx hb dX12_cycle_47 (by decide) ?_
              exact W.iret (v := (-1)) hx hb hr (fun t ht hW => ⟨⟨(-1), (V1, L), rfl, ⟨hMV1, agV1, rfl, (by rw [cyF_n (fun h9 => by have h1 := h9.2.2.2.1; have h2 := h9.2.2.2.2.1; have h3 := h9.2.2.2.2.2; rw [fe9] at h1 h3; omega)]; decide)⟩, by rw [ht]; exact hP, va_K.moved hW.alike hK, hD⟩, hS.F ht⟩) hS.2.2 dX12_cycle_48
