/-! the class's tables: every E begins at an order -/
def sOK (V : Vf) (b : Nat) (s : Int) : Prop := s = -1 ∨ gs V b s
theorem sOK.up {V W : Vf} {b : Nat} {s : Int} (h : sOK V b s) (p : p0x V W b) : sOK W b s := by
  rcases h with h | h
  · exact Or.inl h
  · exact Or.inr (h.up p)
def TX (V : Vf) (b : Nat) : Prop := (∀ c : Nat, (c : Int) < (V 43 (5 * b + 2)).toInt → sOK V b (V 56 (24 * b + c)).toInt ∧ sOK V b (V 57 (24 * b + c)).toInt ∧ ∀ m, m < 20 → sOK V b (V 61 (20 * (24 * b + c) + m)).toInt) ∧ (∀ w : Nat, (w : Int) < (V 41 b).toInt → gs V b (V 66 (12 * b + w)).toInt) ∧ (∀ a : Nat, (a : Int) < (V 41 b).toInt → (V 47 (12 * b + a)).toInt < (V 41 b).toInt)
theorem TX.ag {fs : List (Nat × Nat)} {cs : List Nat} {V W : Vf} {b : Nat} (h : TX V b) (a : agr fs cs V W) (p : px V W b) (q56 : ∀ k, wrL fs cs 56 k = false) (q57 : ∀ k, wrL fs cs 57 k = false) (q61 : ∀ k, wrL fs cs 61 k = false) (q41 : ∀ k, wrL fs cs 41 k = false) (q66 : ∀ k, wrL fs cs 66 k = false) (q47 : ∀ k, wrL fs cs 47 k = false) : TX W b := by
  refine ⟨fun c hc => ?_, fun w hw => ?_, fun x hx => ?_⟩
  · rw [p.2] at hc
    have z := h.1 c hc
    rw [a _ _ (q56 _), a _ _ (q57 _)]
    refine ⟨z.1.up p.1, z.2.1.up p.1, fun m hm => ?_⟩
    rw [a _ _ (q61 _)]
    exact (z.2.2 m hm).up p.1
  · rw [a _ _ (q41 _)] at hw
    rw [a _ _ (q66 _)]
    exact (h.2.1 w hw).up p.1
  · rw [a _ _ (q41 _)] at hx ⊢
    rw [a _ _ (q47 _)]
    exact h.2.2 x hx
/-- one of the starts is set -/
theorem TX.st {V W : Vf} {b c k : Nat} {x : Int32} (h : TX V b) (e : W = up2 V c k x) (hc : c = 56 ∨ c = 57 ∨ c = 61) (g : gs V b x.toInt) : TX W b := by
  have o : ∀ c' k', c' ≠ c → W c' k' = V c' k' := fun c' k' hn => up2_o e hn
  have p : p0x V W b := ⟨by rw [o 42 b (by omega)]; exact Int.le_refl _, fun k' _ => o 48 _ (by omega)⟩
  have one : ∀ c' k', sOK V b (V c' k').toInt → sOK W b (W c' k').toInt := fun c' k' z => by
    by_cases hq : c' = c
    · subst hq
      by_cases hk : k' = k
      · subst hk
        rw [up2_s e]
        exact Or.inr (g.up p)
      · rw [up2_k e hk]
        exact z.up p
    · rw [o c' k' hq]
      exact z.up p
  refine ⟨fun c' hc' => ?_, fun w hw => ?_, fun y hy => ?_⟩
  · rw [o 43 _ (by omega)] at hc'
    have z := h.1 c' hc'
    exact ⟨one _ _ z.1, one _ _ z.2.1, fun m hm => one _ _ (z.2.2 m hm)⟩
  · rw [o 41 _ (by omega)] at hw
    rw [o 66 _ (by omega)]
    exact (h.2.1 w hw).up p
  · rw [o 41 _ (by omega)] at hy ⊢
    rw [o 47 _ (by omega)]
    exact h.2.2 y hy
/-- a component is told -/
theorem TX.add {V W : Vf} {b n : Nat} (h : TX V b) (hn : (n : Int) = (V 43 (5 * b + 2)).toInt) (h43 : (W 43 (5 * b + 2)).toInt ≤ (V 43 (5 * b + 2)).toInt + 1) (p : p0x V W b) (e56 : ∀ q, ¬ q = 24 * b + n → W 56 q = V 56 q) (e57 : ∀ q, ¬ q = 24 * b + n → W 57 q = V 57 q) (e61 : ∀ q, ¬ (20 * (24 * b + n) ≤ q ∧ q < 20 * (24 * b + n) + 20) → W 61 q = V 61 q) (n56 : (W 56 (24 * b + n)).toInt = -1) (n57 : (W 57 (24 * b + n)).toInt = -1) (n61 : ∀ m : Nat, (m : Int) < 20 → (W 61 (20 * (24 * b + n) + m)).toInt = -1) (e41 : W 41 b = V 41 b) (e66 : ∀ k, W 66 k = V 66 k) (e47 : ∀ k, W 47 k = V 47 k) : TX W b := by
  refine ⟨fun c hc => ?_, fun w hw => ?_, fun y hy => ?_⟩
  · by_cases hq : c = n
    · subst hq
      exact ⟨Or.inl n56, Or.inl n57, fun m hm => Or.inl (n61 m (by omega))⟩
    · have z := h.1 c (by omega)
      rw [e56 _ (by omega), e57 _ (by omega)]
      refine ⟨z.1.up p, z.2.1.up p, fun m hm => ?_⟩
      rw [e61 _ (by omega)]
      exact (z.2.2 m hm).up p
  · rw [e41] at hw
    rw [e66]
    exact (h.2.1 w hw).up p
  · rw [e41] at hy ⊢
    rw [e47]
    exact h.2.2 y hy
/-- a wrap is told -/
theorem TX.wrap {V W : Vf} {b n : Nat} (h : TX V b) (hn : (n : Int) = (V 41 b).toInt) (n41 : (W 41 b).toInt = (V 41 b).toInt + 1) (p : px V W b) (e56 : ∀ q, W 56 q = V 56 q) (e57 : ∀ q, W 57 q = V 57 q) (e61 : ∀ q, W 61 q = V 61 q) (e66 : ∀ q, ¬ q = 12 * b + n → W 66 q = V 66 q) (g : gs V b (W 66 (12 * b + n)).toInt) (e47 : ∀ a : Nat, (a : Int) ≤ (n : Int) → (W 47 (12 * b + a)).toInt ≤ (n : Int)) : TX W b := by
  refine ⟨fun c hc => ?_, fun w hw => ?_, fun y hy => ?_⟩
  · rw [p.2] at hc
    have z := h.1 c hc
    rw [e56, e57]
    refine ⟨z.1.up p.1, z.2.1.up p.1, fun m hm => ?_⟩
    rw [e61]
    exact (z.2.2 m hm).up p.1
  · by_cases hq : w = n
    · subst hq
      exact g.up p.1
    · rw [e66 _ (by omega)]
      exact (h.2.1 w (by omega)).up p.1
  · have := e47 y (by omega)
    omega


abbrev r_x_addWrap2 : Room := { frames := 0, cells := 0, slots := 0, locals := 0 }
abbrev q_x_addWrap2 (D : va_G) (ks : KS) (ad : Nat → Nat) (kk : Nat → ClassId) (V : Vf) (L : Lf) (Z : XZ) (p0 : Int32) (p1 : Int32) (p2 : Int32) (p3 : Int32) (p4 : Int32) (b : Nat) (A : Nat → Prop) : Array Value → State → Outcome → State → Prop := va_Qv (fun (u : Vf × Lf) => rgd bX u.1 ∧ agr [] [41, 47, 62, 63, 64, 65, 66] V u.1 ∧ u.2 = L ∧ frX (xR b) V u.1 ∧ (Imp ((V 41 b).toInt < 12) ((u.1 41 b).toInt = (V 41 b).toInt + 1)) ∧ (Imp ((V 41 b).toInt < 12) (∀ a : Nat, (a : Int) ≤ (V 41 b).toInt → (u.1 47 (12 * b + a)).toInt ≤ (V 41 b).toInt)) ∧ (Imp ((V 41 b).toInt < 12) (∀ q : Nat, ¬ q = 12 * b + Int32.toNatClampNeg (V 41 b) → u.1 66 q = V 66 q)) ∧ (Imp ((V 41 b).toInt < 12) (u.1 66 (12 * b + Int32.toNatClampNeg (V 41 b)) = p4))) (fun u t => gq D A (xw ad kk u.1 u.2 Z) (xty kk Z) t) A
set_option maxHeartbeats 4000000 in
set_option maxRecDepth 100000 in
theorem x_addWrap2 (l : Launch) (D : va_G) (ks : KS) (sz : Nat) (ad : Nat → Nat) (kk : Nat → ClassId) (V : Vf) (L : Lf) (Z : XZ) (p0 : Int32) (p1 : Int32) (p2 : Int32) (p3 : Int32) (p4 : Int32) (b : Nat) (hMV : rgd bX V) (rg_p4 : 0 ≤ p4.toInt ∧ p4.toInt ≤ 8200) (hb2 : b < 2) (tw : (∀ a : Nat, (a : Int) < (V 41 b).toInt → (V 47 (12 * b + a)).toInt < (V 41 b).toInt))  : Met l yX0_addWrap (Cond.code yX0_addWrap cX0_addWrap 8 none :: GW) r_x_addWrap2 (va_Pc [.ref (ad (38 + b)), .int p0, .int p1, .int p2, .int p3, .int p4] (gp D ks (xw ad kk V L Z) (xty kk Z) sz)) (q_x_addWrap2 D ks ad kk V L Z p0 p1 p2 p3 p4 b (va_A (xw ad kk V L Z) sz)) 0 0 (va_A (xw ad kk V L Z) sz) := by
  refine g_met (q_x_addWrap2 D ks ad kk V L Z p0 p1 p2 p3 p4 b) (by decide) (Nat.le_of_ble_eq_true rfl) ?_
  intro p e s m below meth c A ls H locs hx hb hr hml hown hg hlocks hin hnw hgk hP hK hD hS hA hl
  have hown : s.vm.findClass RX0 = some m.cls := hown
  have hl : lv_has ls 8 [(0, .ref (ad (38 + b))), (1, .int p0), (2, .int p1), (3, .int p2), (4, .int p3), (5, .int p4)] := hl
  have hP : va_P D vwCl (xw ad kk V L Z) H := hP
  have hD : va_D A (xw ad kk V L Z) := hD
  have hK : va_K D vwCl (xty kk Z) s := hK
  have agV : agr [] [41, 47, 62, 63, 64, 65, 66] V V := agr.rf
  have fwV : frX (xR b) V V := frX.rf
  refine lv_aload_n hx hb dX0_addWrap_0 rfl (lv_at hl 0 rfl) ?_
  refine va_get (D := D) (ci := 0) (v := .int (V 41 b)) (fs := (xfBook ad V b)) (C := RX0) (T := TX0) (N := 13) hx hb hg inX0 hown hK hP (38 + b) (xgBook hb2) rfl 11 (by decide) (hg _ w625) (fun _ h9 => h9) rfl dX0_addWrap_1 ?_
  have r1 : 0 ≤ ((V 41 b)).toInt ∧ ((V 41 b)).toInt ≤ 12 := hMV 41 b
  refine lv_bipush (v := 12) hx hb dX0_addWrap_4 (by decide) ?_
  refine lv_icmp_lt (tgt := 10) hx hb dX0_addWrap_6 (by decide) (fun c2 => ?_) (fun c2 => ?_)
  · skip
    have f3 : ((V 41 b)).toInt < 12 := b_lt rfl (by decide) c2
    refine lv_aload_n hx hb dX0_addWrap_10 rfl (lv_at hl 0 rfl) ?_
    refine va_get (D := D) (ci := 0) (v := .ref (ad (66 + b))) (fs := (xfBook ad V b)) (C := RX0) (T := TX0) (N := 13) hx hb hg inX0 hown hK hP (38 + b) (xgBook hb2) rfl 8 (by decide) (hg _ w619) (fun _ h9 => h9) rfl dX0_addWrap_11 ?_
    refine lv_aload_n hx hb dX0_addWrap_14 rfl (lv_at hl 0 rfl) ?_
    refine va_get (D := D) (ci := 0) (v := .int (V 41 b)) (fs := (xfBook ad V b)) (C := RX0) (T := TX0) (N := 13) hx hb hg inX0 hown hK hP (38 + b) (xgBook hb2) rfl 11 (by decide) (hg _ w625) (fun _ h9 => h9) rfl dX0_addWrap_15 ?_
    have il4 : b < 2 := by first | exact om_f940a4667dd6 hb2 | first | omega | ((try (have i_tw := Imp.go tw (by omega))); omega)
    refine va_aldq (D := D) (i := (V 41 b)) hx hb hK hP (66 + b) (59 + b) (xgwrapsA il4) (xtwrapsA il4) (i_in (a := ((V 41 b)).toInt) rfl (by first | exact om_d4ab6ce6d2bb r1.1 f3 | first | omega | ((try (have i_tw := Imp.go tw (by omega))); omega))) dX0_addWrap_18 ?_
    have kc5 := i_clamp (x := (V 41 b)) rfl (by first | exact om_eafa9039069c r1.1 | first | omega | ((try (have i_tw := Imp.go tw (by omega))); omega))
    refine g_topv (v := .ref (ad (312 + (12 * b + (Int32.toNatClampNeg (V 41 b)))))) (congrArg va_rf (if_pos (by first | omega | ((try (have i_tw := Imp.go tw (by omega))); omega)))) ?_
    have il6 : (12 * b + (Int32.toNatClampNeg (V 41 b))) < 24 := by first | exact om_29112faea521 hb2 f3 kc5 | first | omega | ((try (have i_tw := Imp.go tw (by omega))); omega)
    refine lv_astore (lv' := [(6, .ref (ad (312 + (12 * b + (Int32.toNatClampNeg (V 41 b)))))), (0, .ref (ad (38 + b))), (1, .int p0), (2, .int p1), (3, .int p2), (4, .int p3), (5, .int p4)]) hx hb dX0_addWrap_19 hl (by decide) rfl (fun ls hl => ?_)
    refine lv_aload hx hb dX0_addWrap_21 (lv_at hl 0 rfl) ?_
    refine lv_iload_n hx hb dX0_addWrap_23 rfl (lv_at hl 2 rfl) ?_
    refine va_putN (D := D) (ci := 10) (v := .int p0) (ty := tyX10 0) (fs := (xfWrap V (12 * b + (Int32.toNatClampNeg (V 41 b))))) (C := RX10) (T := TX10) (N := 5) hx hb hg inX10 tyX10 tyX10_ok nmX10 hown hK hP hD hS (312 + (12 * b + (Int32.toNatClampNeg (V 41 b)))) (xgWrap il6) rfl 0 (by decide) (hnw.use 575 n575 rfl) (fun _ h9 => h9) rfl (tyX10_ok 0 (by decide)) rfl rfl (Nat.le_of_ble_eq_true rfl) dX0_addWrap_24 (fun H locs hP hD hS => ?_)
    obtain ⟨V7, hV7⟩ : ∃ z, z = up2 V 62 (12 * b + (Int32.toNatClampNeg (V 41 b))) p0 := ⟨_, rfl⟩
    have ew8 : (xw ad kk V L Z).set (312 + (12 * b + (Int32.toNatClampNeg (V 41 b)))) ((ad (312 + (12 * b + (Int32.toNatClampNeg (V 41 b))))), .inr (10, (xfWrap V (12 * b + (Int32.toNatClampNeg (V 41 b)))).set 0 (.int p0))) = xw ad kk V7 L Z := by rw [hV7]; exact xpWrap_type il6
    have hP : va_P D vwCl (xw ad kk V7 L Z) H := by rw [← ew8]; exact hP
    have hD : va_D A (xw ad kk V7 L Z) := by rw [← ew8]; exact hD
    have hMV7 : rgd bX V7 := hMV.put hV7 (i_full _)
    have agV7 : agr [] [41, 47, 62, 63, 64, 65, 66] V V7 := agV.up hV7 rfl
    have fwV7 : frX (xR b) V V7 := frX.up fwV hV7 (Or.inr ⟨(by show 12 * b ≤ (12 * b + (Int32.toNatClampNeg (V 41 b))); first | exact om_bc4eeef16aa3 | first | omega | ((try (have i_tw := Imp.go tw (by omega))); omega)), (by show (12 * b + (Int32.toNatClampNeg (V 41 b))) < 12 * b + 12; first | exact om_5a4487e59699 f3 kc5 | first | omega | ((try (have i_tw := Imp.go tw (by omega))); omega))⟩)
    refine lv_aload hx hb dX0_addWrap_27 (lv_at hl 0 rfl) ?_
    refine lv_iload_n hx hb dX0_addWrap_29 rfl (lv_at hl 3 rfl) ?_
    refine va_putN (D := D) (ci := 10) (v := .int p1) (ty := tyX10 1) (fs := (xfWrap V7 (12 * b + (Int32.toNatClampNeg (V 41 b))))) (C := RX10) (T := TX10) (N := 5) hx hb hg inX10 tyX10 tyX10_ok nmX10 hown hK hP hD hS (312 + (12 * b + (Int32.toNatClampNeg (V 41 b)))) (xgWrap il6) rfl 1 (by decide) (hnw.use 576 n576 rfl) (fun _ h9 => h9) rfl (tyX10_ok 1 (by decide)) rfl rfl (Nat.le_of_ble_eq_true rfl) dX0_addWrap_30 (fun H locs hP hD hS => ?_)
    obtain ⟨V9, hV9⟩ : ∃ z, z = up2 V7 63 (12 * b + (Int32.toNatClampNeg (V 41 b))) p1 := ⟨_, rfl⟩
    have ew10 : (xw ad kk V7 L Z).set (312 + (12 * b + (Int32.toNatClampNeg (V 41 b)))) ((ad (312 + (12 * b + (Int32.toNatClampNeg (V 41 b))))), .inr (10, (xfWrap V7 (12 * b + (Int32.toNatClampNeg (V 41 b)))).set 1 (.int p1))) = xw ad kk V9 L Z := by rw [hV9]; exact xpWrap_method il6
    have hP : va_P D vwCl (xw ad kk V9 L Z) H := by rw [← ew10]; exact hP
    have hD : va_D A (xw ad kk V9 L Z) := by rw [← ew10]; exact hD
    have hMV9 : rgd bX V9 := hMV7.put hV9 (i_full _)
    have agV9 : agr [] [41, 47, 62, 63, 64, 65, 66] V V9 := agV7.up hV9 rfl
    have fwV9 : frX (xR b) V V9 := frX.up fwV7 hV9 (Or.inr ⟨(by show 12 * b ≤ (12 * b + (Int32.toNatClampNeg (V 41 b))); first | exact om_bc4eeef16aa3 | first | omega | ((try (have i_tw := Imp.go tw (by omega))); omega)), (by show (12 * b + (Int32.toNatClampNeg (V 41 b))) < 12 * b + 12; first | exact om_5a4487e59699 f3 kc5 | first | omega | ((try (have i_tw := Imp.go tw (by omega))); omega))⟩)
    refine lv_aload hx hb dX0_addWrap_33 (lv_at hl 0 rfl) ?_
    refine lv_iload_n hx hb dX0_addWrap_35 rfl (lv_at hl 4 rfl) ?_
    refine va_putN (D := D) (ci := 10) (v := .int p2) (ty := tyX10 2) (fs := (xfWrap V9 (12 * b + (Int32.toNatClampNeg (V 41 b))))) (C := RX10) (T := TX10) (N := 5) hx hb hg inX10 tyX10 tyX10_ok nmX10 hown hK hP hD hS (312 + (12 * b + (Int32.toNatClampNeg (V 41 b)))) (xgWrap il6) rfl 2 (by decide) (hnw.use 577 n577 rfl) (fun _ h9 => h9) rfl (tyX10_ok 2 (by decide)) rfl rfl (Nat.le_of_ble_eq_true rfl) dX0_addWrap_36 (fun H locs hP hD hS => ?_)
    obtain ⟨V11, hV11⟩ : ∃ z, z = up2 V9 64 (12 * b + (Int32.toNatClampNeg (V 41 b))) p2 := ⟨_, rfl⟩
    have ew12 : (xw ad kk V9 L Z).set (312 + (12 * b + (Int32.toNatClampNeg (V 41 b)))) ((ad (312 + (12 * b + (Int32.toNatClampNeg (V 41 b))))), .inr (10, (xfWrap V9 (12 * b + (Int32.toNatClampNeg (V 41 b)))).set 2 (.int p2))) = xw ad kk V11 L Z := by rw [hV11]; exact xpWrap_number il6
    have hP : va_P D vwCl (xw ad kk V11 L Z) H := by rw [← ew12]; exact hP
    have hD : va_D A (xw ad kk V11 L Z) := by rw [← ew12]; exact hD
    have hMV11 : rgd bX V11 := hMV9.put hV11 (i_full _)
    have agV11 : agr [] [41, 47, 62, 63, 64, 65, 66] V V11 := agV9.up hV11 rfl
    have fwV11 : frX (xR b) V V11 := frX.up fwV9 hV11 (Or.inr ⟨(by show 12 * b ≤ (12 * b + (Int32.toNatClampNeg (V 41 b))); first | exact om_bc4eeef16aa3 | first | omega | ((try (have i_tw := Imp.go tw (by omega))); omega)), (by show (12 * b + (Int32.toNatClampNeg (V 41 b))) < 12 * b + 12; first | exact om_5a4487e59699 f3 kc5 | first | omega | ((try (have i_tw := Imp.go tw (by omega))); omega))⟩)
    refine lv_aload hx hb dX0_addWrap_39 (lv_at hl 0 rfl) ?_
    refine lv_iload hx hb dX0_addWrap_41 (lv_at hl 5 rfl) ?_
    refine va_putN (D := D) (ci := 10) (v := .int p3) (ty := tyX10 3) (fs := (xfWrap V11 (12 * b + (Int32.toNatClampNeg (V 41 b))))) (C := RX10) (T := TX10) (N := 5) hx hb hg inX10 tyX10 tyX10_ok nmX10 hown hK hP hD hS (312 + (12 * b + (Int32.toNatClampNeg (V 41 b)))) (xgWrap il6) rfl 3 (by decide) (hnw.use 578 n578 rfl) (fun _ h9 => h9) rfl (tyX10_ok 3 (by decide)) rfl rfl (Nat.le_of_ble_eq_true rfl) dX0_addWrap_43 (fun H locs hP hD hS => ?_)
    obtain ⟨V13, hV13⟩ : ∃ z, z = up2 V11 65 (12 * b + (Int32.toNatClampNeg (V 41 b))) p3 := ⟨_, rfl⟩
    have ew14 : (xw ad kk V11 L Z).set (312 + (12 * b + (Int32.toNatClampNeg (V 41 b)))) ((ad (312 + (12 * b + (Int32.toNatClampNeg (V 41 b))))), .inr (10, (xfWrap V11 (12 * b + (Int32.toNatClampNeg (V 41 b)))).set 3 (.int p3))) = xw ad kk V13 L Z := by rw [hV13]; exact xpWrap_phase il6
    have hP : va_P D vwCl (xw ad kk V13 L Z) H := by rw [← ew14]; exact hP
    have hD : va_D A (xw ad kk V13 L Z) := by rw [← ew14]; exact hD
    have hMV13 : rgd bX V13 := hMV11.put hV13 (i_full _)
    have agV13 : agr [] [41, 47, 62, 63, 64, 65, 66] V V13 := agV11.up hV13 rfl
    have fwV13 : frX (xR b) V V13 := frX.up fwV11 hV13 (Or.inr ⟨(by show 12 * b ≤ (12 * b + (Int32.toNatClampNeg (V 41 b))); first | exact om_bc4eeef16aa3 | first | omega | ((try (have i_tw := Imp.go tw (by omega))); omega)), (by show (12 * b + (Int32.toNatClampNeg (V 41 b))) < 12 * b + 12; first | exact om_5a4487e59699 f3 kc5 | first | omega | ((try (have i_tw := Imp.go tw (by omega))); omega))⟩)
    refine lv_aload hx hb dX0_addWrap_46 (lv_at hl 0 rfl) ?_
    refine lv_iload hx hb dX0_addWrap_48 (lv_at hl 6 rfl) ?_
    refine va_putN (D := D) (ci := 10) (v := .int p4) (ty := tyX10 4) (fs := (xfWrap V13 (12 * b + (Int32.toNatClampNeg (V 41 b))))) (C := RX10) (T := TX10) (N := 5) hx hb hg inX10 tyX10 tyX10_ok nmX10 hown hK hP hD hS (312 + (12 * b + (Int32.toNatClampNeg (V 41 b)))) (xgWrap il6) rfl 4 (by decide) (hnw.use 580 n580 rfl) (fun _ h9 => h9) rfl (tyX10_ok 4 (by decide)) rfl rfl (Nat.le_of_ble_eq_true rfl) dX0_addWrap_50 (fun H locs hP hD hS => ?_)
    obtain ⟨V15, hV15⟩ : ∃ z, z = up2 V13 66 (12 * b + (Int32.toNatClampNeg (V 41 b))) p4 := ⟨_, rfl⟩
    have ew16 : (xw ad kk V13 L Z).set (312 + (12 * b + (Int32.toNatClampNeg (V 41 b)))) ((ad (312 + (12 * b + (Int32.toNatClampNeg (V 41 b))))), .inr (10, (xfWrap V13 (12 * b + (Int32.toNatClampNeg (V 41 b)))).set 4 (.int p4))) = xw ad kk V15 L Z := by rw [hV15]; exact xpWrap_start il6
    have hP : va_P D vwCl (xw ad kk V15 L Z) H := by rw [← ew16]; exact hP
    have hD : va_D A (xw ad kk V15 L Z) := by rw [← ew16]; exact hD
    have hMV15 : rgd bX V15 := hMV13.put hV15 (show 0 ≤ p4.toInt ∧ p4.toInt ≤ 8200 from by first | exact om_827712d37f0f rg_p4.1 rg_p4.2 | first | omega | ((try (have i_tw := Imp.go tw (by omega))); omega))
    have agV15 : agr [] [41, 47, 62, 63, 64, 65, 66] V V15 := agV13.up hV15 rfl
    have fwV15 : frX (xR b) V V15 := frX.up fwV13 hV15 (Or.inr ⟨(by show 12 * b ≤ (12 * b + (Int32.toNatClampNeg (V 41 b))); first | exact om_bc4eeef16aa3 | first | omega | ((try (have i_tw := Imp.go tw (by omega))); omega)), (by show (12 * b + (Int32.toNatClampNeg (V 41 b))) < 12 * b + 12; first | exact om_5a4487e59699 f3 kc5 | first | omega | ((try (have i_tw := Imp.go tw (by omega))); omega))⟩)
    refine lv_aload_n hx hb dX0_addWrap_53 rfl (lv_at hl 1 rfl) ?_
    refine va_get (D := D) (ci := 0) (v := .int (V15 41 b)) (fs := (xfBook ad V15 b)) (C := RX0) (T := TX0) (N := 13) hx hb hg inX0 hown hK hP (38 + b) (xgBook hb2) rfl 11 (by decide) (hg _ w625) (fun _ h9 => h9) rfl dX0_addWrap_54 ?_
    refine g_top (v := (V 41 b)) ((up2_o hV15 (by decide)).trans ((up2_o hV13 (by decide)).trans ((up2_o hV11 (by decide)).trans ((up2_o hV9 (by decide)).trans (up2_o hV7 (by decide)))))) ?_
    refine lv_istore (lv' := [(7, .int (V 41 b)), (6, .ref (ad (312 + (12 * b + (Int32.toNatClampNeg (V 41 b)))))), (0, .ref (ad (38 + b))), (1, .int p0), (2, .int p1), (3, .int p2), (4, .int p3), (5, .int p4)]) hx hb dX0_addWrap_57 hl (by decide) rfl (fun ls hl => ?_)
    have lp19 : ∀ (fulp19 : Nat) (y17 : Int32) (V18 : Vf) (H : Heap) (locs : List Loc) (ls : Array Slot), 0 ≤ y17.toInt ∧ y17.toInt ≤ 11 → y17.toInt ≤ (V 41 b).toInt → 0 ≤ y17.toInt → (∀ a : Nat, (a : Int) ≤ (V 41 b).toInt → (a : Int) ≠ y17.toInt → (V18 47 (12 * b + a)).toInt < (V 41 b).toInt) → y17.toInt < (fulp19 : Int) → agr [] [47] V15 V18 → rgd bX V18 → frX (xR b) V V18 → va_P D vwCl (xw ad kk V18 L Z) H → va_D A (xw ad kk V18 L Z) → va_S A s.heap H locs → lv_has ls 8 [(7, .int y17), (6, .ref (ad (312 + (12 * b + (Int32.toNatClampNeg (V 41 b)))))), (0, .ref (ad (38 + b))), (1, .int p0), (2, .int p1), (3, .int p2), (4, .int p3), (5, .int p4)] → W p l e r_x_addWrap2 s m ([.ref (ad (38 + b)), .int p0, .int p1, .int p2, .int p3, .int p4] : List Value).toArray below meth c H locs 0 0 (MQ below (q_x_addWrap2 D ks ad kk V L Z p0 p1 p2 p3 p4 b A) ([.ref (ad (38 + b)), .int p0, .int p1, .int p2, .int p3, .int p4] : List Value).toArray s 0 0 A) (F0 m 59 ls []) := by
      intro fulp19
      induction fulp19 with
      | zero =>
        intro y17 V18 H locs ls klp19_0 xlp19_0 xlp19_1 xlp19_2 hn ajV18 hMV18 fwV18 hP hD hS hl
        exfalso; (first | exact om_21e89d3d06d7 klp19_0.1 hn | omega)
      | succ fulp19 ihlp19 =>
        intro y17 V18 H locs ls klp19_0 xlp19_0 xlp19_1 xlp19_2 hn ajV18 hMV18 fwV18 hP hD hS hl
        have agV18 : agr [] [41, 47, 62, 63, 64, 65, 66] V V18 := agV15.tr ajV18 (by decide) (by decide)
        refine lv_iload hx hb dX0_addWrap_59 (lv_at hl 0 rfl) ?_
        refine lv_if_le (tgt := 107) hx hb dX0_addWrap_61 (by decide) (fun c20 => ?_) (fun c20 => ?_)
        · skip
          have f21 : y17.toInt ≤ 0 := b_le rfl (by decide) c20
          refine lv_aload_n hx hb dX0_addWrap_107 rfl (lv_at hl 2 rfl) ?_
          refine va_get (D := D) (ci := 0) (v := .ref (ad (68 + b))) (fs := (xfBook ad V18 b)) (C := RX0) (T := TX0) (N := 13) hx hb hg inX0 hown hK hP (38 + b) (xgBook hb2) rfl 9 (by decide) (hg _ w621) (fun _ h9 => h9) rfl dX0_addWrap_108 ?_
          refine lv_iload hx hb dX0_addWrap_111 (lv_at hl 0 rfl) ?_
          refine lv_aload_n hx hb dX0_addWrap_113 rfl (lv_at hl 2 rfl) ?_
          refine va_get (D := D) (ci := 0) (v := .int (V18 41 b)) (fs := (xfBook ad V18 b)) (C := RX0) (T := TX0) (N := 13) hx hb hg inX0 hown hK hP (38 + b) (xgBook hb2) rfl 11 (by decide) (hg _ w625) (fun _ h9 => h9) rfl dX0_addWrap_114 ?_
          refine g_top (v := (V 41 b)) ((ajV18 41 b rfl).trans ((up2_o hV15 (by decide)).trans ((up2_o hV13 (by decide)).trans ((up2_o hV11 (by decide)).trans ((up2_o hV9 (by decide)).trans (up2_o hV7 (by decide))))))) ?_
          have il22 : b < 2 := by first | exact om_f940a4667dd6 hb2 | first | omega | ((try (have i_tw := Imp.go tw (by omega))); omega)
          refine va_iast (D := D) (i := y17) (x := (V 41 b)) hx hb hK hP hD hS (68 + b) (61 + b) (xgwrapOrder il22) (xtwrapOrder il22) (i_in (a := y17.toInt) rfl (by first | exact om_992dabb1eca5 klp19_0.1 f21 | first | omega | ((try (have i_tw := Imp.go tw (by omega))); omega))) dX0_addWrap_117 (fun H locs hP hD hS => ?_)
          have kc23 := i_clamp (x := y17) rfl (by first | exact om_eafa9039069c klp19_0.1 | first | omega | ((try (have i_tw := Imp.go tw (by omega))); omega))
          have kl24 : (Int32.toNatClampNeg y17) < 12 := by first | exact om_0e62abf75189 f21 kc23 | first | omega | ((try (have i_tw := Imp.go tw (by omega))); omega)
          obtain ⟨V25, hV25⟩ : ∃ z, z = up2 V18 47 (12 * b + (Int32.toNatClampNeg y17)) (V 41 b) := ⟨_, rfl⟩
          have ew26 : (xw ad kk V18 L Z).set (68 + b) ((ad (68 + b)), .inl ((kk (68 + b)), 12, .inl (upd (fun q => if q < 12 then V18 47 (12 * b + q) else 0) (Int32.toNatClampNeg y17) (V 41 b)))) = xw ad kk V25 L Z := by rw [hV25]; exact xpwrapOrder il22 kl24
          have hP : va_P D vwCl (xw ad kk V25 L Z) H := by rw [← ew26]; exact hP
          have hD : va_D A (xw ad kk V25 L Z) := by rw [← ew26]; exact hD
          have hMV25 : rgd bX V25 := hMV18.put hV25 (show 0 ≤ ((V 41 b)).toInt ∧ ((V 41 b)).toInt ≤ 11 from by first | exact om_08e1aa59793b r1.1 f3 | first | omega | ((try (have i_tw := Imp.go tw (by omega))); omega))
          have agV25 : agr [] [41, 47, 62, 63, 64, 65, 66] V V25 := agV18.up hV25 rfl
          have fwV25 : frX (xR b) V V25 := frX.up fwV18 hV25 (Or.inr ⟨(by show 12 * b ≤ (12 * b + (Int32.toNatClampNeg y17)); first | exact om_fdad02d66478 klp19_0.1 kc23 | first | omega | ((try (have i_tw := Imp.go tw (by omega))); omega)), (by show (12 * b + (Int32.toNatClampNeg y17)) < 12 * b + 12; first | exact om_9e3f6311c4ce f21 kc23 | first | omega | ((try (have i_tw := Imp.go tw (by omega))); omega))⟩)
          refine lv_aload_n hx hb dX0_addWrap_118 rfl (lv_at hl 2 rfl) ?_
          refine lv_dup hx hb dX0_addWrap_119 rfl ?_
          refine va_get (D := D) (ci := 0) (v := .int (V25 41 b)) (fs := (xfBook ad V25 b)) (C := RX0) (T := TX0) (N := 13) hx hb hg inX0 hown hK hP (38 + b) (xgBook hb2) rfl 11 (by decide) (hg _ w625) (fun _ h9 => h9) rfl dX0_addWrap_120 ?_
          refine g_top (v := (V 41 b)) ((up2_o hV25 (by decide)).trans ((ajV18 41 b rfl).trans ((up2_o hV15 (by decide)).trans ((up2_o hV13 (by decide)).trans ((up2_o hV11 (by decide)).trans ((up2_o hV9 (by decide)).trans (up2_o hV7 (by decide)))))))) ?_
          refine lv_iconst (v := 1) hx hb dX0_addWrap_123 (by decide) ?_
          refine lv_iadd hx hb dX0_addWrap_124 ?_
          refine lv_topi (fun z27 ez27 => ?_)
          have hz27 : z27.toInt = ((V 41 b)).toInt + 1 := i_add ez27 rfl (by decide) (by (first | exact om_4464765f026c r1.1 f3 | omega))
          refine va_put (D := D) (ci := 0) (v := .int z27) (ty := tyX0 11) (fs := (xfBook ad V25 b)) (C := RX0) (T := TX0) (N := 13) hx hb hg inX0 tyX0 tyX0_ok nmX0 hown hK hP hD hS (38 + b) (xgBook hb2) rfl 11 (by decide) (hg _ w625) (fun _ h9 => h9) rfl (tyX0_ok 11 (by decide)) rfl rfl (Nat.le_of_ble_eq_true rfl) dX0_addWrap_125 (fun H locs hP hD hS => ?_)
          obtain ⟨V28, hV28⟩ : ∃ z, z = up2 V25 41 b z27 := ⟨_, rfl⟩
          have ew29 : (xw ad kk V25 L Z).set (38 + b) ((ad (38 + b)), .inr (0, (xfBook ad V25 b).set 11 (.int z27))) = xw ad kk V28 L Z := by rw [hV28]; exact xpBook_wrapCount hb2
          have hP : va_P D vwCl (xw ad kk V28 L Z) H := by rw [← ew29]; exact hP
          have hD : va_D A (xw ad kk V28 L Z) := by rw [← ew29]; exact hD
          have hMV28 : rgd bX V28 := hMV25.put hV28 (show 0 ≤ z27.toInt ∧ z27.toInt ≤ 12 from by first | exact om_b1c60bcb684f r1.1 f3 hz27 | first | omega | ((try (have i_tw := Imp.go tw (by omega))); omega))
          have agV28 : agr [] [41, 47, 62, 63, 64, 65, 66] V V28 := agV25.up hV28 rfl
          have fwV28 : frX (xR b) V V28 := frX.up fwV25 hV28 (Or.inr ⟨(by show b ≤ b; first | exact om_36cf446a3c95 | first | omega | ((try (have i_tw := Imp.go tw (by omega))); omega)), (by show b < b + 1; first | exact om_0bb971ab4ffe | first | omega | ((try (have i_tw := Imp.go tw (by omega))); omega))⟩)
          have pq30 : (V28 41 b).toInt = z27.toInt := congrArg Int32.toInt (up2_s hV28)
          have k41 := i_clamp (x := V 41 b) rfl (by (first | exact om_eafa9039069c r1.1 | omega))
          have rp31 : Imp ((V 41 b).toInt < 12) (∀ a : Nat, (a : Int) ≤ (V 41 b).toInt → (V28 47 (12 * b + a)).toInt ≤ (V 41 b).toInt) := Imp.mk (fun _ a ha => by rw [up2_o hV28 (show ¬ 47 = 41 from by decide)]; rcases Decidable.em (12 * b + a = (12 * b + (Int32.toNatClampNeg y17))) with h9 | h9; (rw [h9, up2_s hV25]; omega); (rw [up2_k hV25 h9]; have h8 := xlp19_2 a ha (by omega); omega))
          have rp32 : Imp ((V 41 b).toInt < 12) (∀ q : Nat, ¬ q = 12 * b + Int32.toNatClampNeg (V 41 b) → V28 66 q = V 66 q) := Imp.mk (fun _ q hq => ((((((((up2_o hV28 (by decide)).trans (up2_o hV25 (by decide))).trans (ajV18 66 _ rfl)).trans (up2_k hV15 (by omega))).trans (up2_o hV13 (by decide))).trans (up2_o hV11 (by decide))).trans (up2_o hV9 (by decide))).trans (up2_o hV7 (by decide))))
          have rp33 : Imp ((V 41 b).toInt < 12) (V28 66 (12 * b + Int32.toNatClampNeg (V 41 b)) = p4) := Imp.mk (fun _ => ((((up2_o hV28 (by decide)).trans (up2_o hV25 (by decide))).trans (ajV18 66 _ rfl)).trans (up2_s hV15)))
          exact W.vret hx hb hr (fun t ht hW => ⟨⟨(V28, L), rfl, ⟨hMV28, agV28, rfl, fwV28, (Imp.mk (fun hp => have hp : (V 41 b).toInt < 12 := hp; (show (V28 41 b).toInt = (V 41 b).toInt + 1 from by first | exact om_689eeacb6d53 hz27 pq30 | first | omega | ((try (have i_tw := Imp.go tw (by omega))); omega)))), rp31, rp32, rp33⟩, by rw [ht]; exact hP, va_K.moved hW.alike hK, hD⟩, hS.F ht⟩) hS.2.2 dX0_addWrap_128
        · skip
          have f34 : 0 < y17.toInt := b_nle rfl (by decide) c20
          refine lv_aload_n hx hb dX0_addWrap_64 rfl (lv_at hl 2 rfl) ?_
          refine va_get (D := D) (ci := 0) (v := .ref (ad (66 + b))) (fs := (xfBook ad V18 b)) (C := RX0) (T := TX0) (N := 13) hx hb hg inX0 hown hK hP (38 + b) (xgBook hb2) rfl 8 (by decide) (hg _ w619) (fun _ h9 => h9) rfl dX0_addWrap_65 ?_
          refine lv_aload_n hx hb dX0_addWrap_68 rfl (lv_at hl 2 rfl) ?_
          refine va_get (D := D) (ci := 0) (v := .ref (ad (68 + b))) (fs := (xfBook ad V18 b)) (C := RX0) (T := TX0) (N := 13) hx hb hg inX0 hown hK hP (38 + b) (xgBook hb2) rfl 9 (by decide) (hg _ w621) (fun _ h9 => h9) rfl dX0_addWrap_69 ?_
          refine lv_iload hx hb dX0_addWrap_72 (lv_at hl 0 rfl) ?_
          refine lv_iconst (v := 1) hx hb dX0_addWrap_74 (by decide) ?_
          refine lv_isub hx hb dX0_addWrap_75 ?_
          refine lv_topi (fun z35 ez35 => ?_)
          have hz35 : z35.toInt = y17.toInt - 1 := i_sub ez35 rfl (by decide) (by (first | exact om_7f4f78fac172 f3 xlp19_0 f34 | omega))
          have il36 : b < 2 := by first | exact om_f940a4667dd6 hb2 | first | omega | ((try (have i_tw := Imp.go tw (by omega))); omega)
          refine va_iald (D := D) (i := z35) hx hb hK hP (68 + b) (61 + b) (xgwrapOrder il36) (xtwrapOrder il36) (i_in (a := z35.toInt) rfl (by first | exact om_f5d89ef8e173 f3 xlp19_0 f34 hz35 | first | omega | ((try (have i_tw := Imp.go tw (by omega))); omega))) dX0_addWrap_76 ?_
          have kc37 := i_clamp (x := z35) rfl (by first | exact om_9271d0948665 f34 hz35 | first | omega | ((try (have i_tw := Imp.go tw (by omega))); omega))
          refine g_top (v := V18 47 (12 * b + (Int32.toNatClampNeg z35))) (if_pos (by first | omega | ((try (have i_tw := Imp.go tw (by omega))); omega))) ?_
          have r38 : 0 ≤ ((V18 47 (12 * b + (Int32.toNatClampNeg z35)))).toInt ∧ ((V18 47 (12 * b + (Int32.toNatClampNeg z35)))).toInt ≤ 11 := hMV18 47 (12 * b + (Int32.toNatClampNeg z35))
          refine va_aldq (D := D) (i := (V18 47 (12 * b + (Int32.toNatClampNeg z35)))) hx hb hK hP (66 + b) (59 + b) (xgwrapsA il4) (xtwrapsA il4) (i_in (a := ((V18 47 (12 * b + (Int32.toNatClampNeg z35)))).toInt) rfl (by first | exact om_da83cce65d18 r38.1 r38.2 | first | omega | ((try (have i_tw := Imp.go tw (by omega))); omega))) dX0_addWrap_77 ?_
          have kc39 := i_clamp (x := (V18 47 (12 * b + (Int32.toNatClampNeg z35)))) rfl (by first | exact om_eafa9039069c r38.1 | first | omega | ((try (have i_tw := Imp.go tw (by omega))); omega))
          refine g_topv (v := .ref (ad (312 + (12 * b + (Int32.toNatClampNeg (V18 47 (12 * b + (Int32.toNatClampNeg z35)))))))) (congrArg va_rf (if_pos (by first | omega | ((try (have i_tw := Imp.go tw (by omega))); omega)))) ?_
          have il40 : (12 * b + (Int32.toNatClampNeg (V18 47 (12 * b + (Int32.toNatClampNeg z35))))) < 24 := by first | exact om_a98cd8d2da4e hb2 r38.2 kc39 | first | omega | ((try (have i_tw := Imp.go tw (by omega))); omega)
          refine va_getN (D := D) (ci := 10) (v := .int (V18 64 (12 * b + (Int32.toNatClampNeg (V18 47 (12 * b + (Int32.toNatClampNeg z35))))))) (fs := (xfWrap V18 (12 * b + (Int32.toNatClampNeg (V18 47 (12 * b + (Int32.toNatClampNeg z35))))))) (C := RX10) (T := TX10) (N := 5) hx hb hg inX10 hown hK hP (312 + (12 * b + (Int32.toNatClampNeg (V18 47 (12 * b + (Int32.toNatClampNeg z35)))))) (xgWrap il40) rfl 2 (by decide) (hnw.use 577 n577 rfl) (fun _ h9 => h9) rfl dX0_addWrap_78 ?_
          refine g_top (v := (V11 64 (12 * b + (Int32.toNatClampNeg (V18 47 (12 * b + (Int32.toNatClampNeg z35))))))) ((ajV18 64 (12 * b + (Int32.toNatClampNeg (V18 47 (12 * b + (Int32.toNatClampNeg z35))))) rfl).trans ((up2_o hV15 (by decide)).trans (up2_o hV13 (by decide)))) ?_
          refine lv_iload_n hx hb dX0_addWrap_81 rfl (lv_at hl 5 rfl) ?_
          refine lv_icmp_le (tgt := 107) hx hb dX0_addWrap_82 (by decide) (fun c41 => ?_) (fun c41 => ?_)
          · skip
            have f42 : ((V11 64 (12 * b + (Int32.toNatClampNeg (V18 47 (12 * b + (Int32.toNatClampNeg z35))))))).toInt ≤ p2.toInt := b_le rfl rfl c41
            refine lv_aload_n hx hb dX0_addWrap_107 rfl (lv_at hl 2 rfl) ?_
            refine va_get (D := D) (ci := 0) (v := .ref (ad (68 + b))) (fs := (xfBook ad V18 b)) (C := RX0) (T := TX0) (N := 13) hx hb hg inX0 hown hK hP (38 + b) (xgBook hb2) rfl 9 (by decide) (hg _ w621) (fun _ h9 => h9) rfl dX0_addWrap_108 ?_
            refine lv_iload hx hb dX0_addWrap_111 (lv_at hl 0 rfl) ?_
            refine lv_aload_n hx hb dX0_addWrap_113 rfl (lv_at hl 2 rfl) ?_
            refine va_get (D := D) (ci := 0) (v := .int (V18 41 b)) (fs := (xfBook ad V18 b)) (C := RX0) (T := TX0) (N := 13) hx hb hg inX0 hown hK hP (38 + b) (xgBook hb2) rfl 11 (by decide) (hg _ w625) (fun _ h9 => h9) rfl dX0_addWrap_114 ?_
            refine g_top (v := (V 41 b)) ((ajV18 41 b rfl).trans ((up2_o hV15 (by decide)).trans ((up2_o hV13 (by decide)).trans ((up2_o hV11 (by decide)).trans ((up2_o hV9 (by decide)).trans (up2_o hV7 (by decide))))))) ?_
            refine va_iast (D := D) (i := y17) (x := (V 41 b)) hx hb hK hP hD hS (68 + b) (61 + b) (xgwrapOrder il36) (xtwrapOrder il36) (i_in (a := y17.toInt) rfl (by first | exact om_e96f9555304e klp19_0.2 f34 | first | omega | ((try (have i_tw := Imp.go tw (by omega))); omega))) dX0_addWrap_117 (fun H locs hP hD hS => ?_)
            have kc43 := i_clamp (x := y17) rfl (by first | exact om_610a4af05d44 f34 | first | omega | ((try (have i_tw := Imp.go tw (by omega))); omega))
            have kl44 : (Int32.toNatClampNeg y17) < 12 := by first | exact om_004b84c8d7e3 klp19_0.2 kc43 | first | omega | ((try (have i_tw := Imp.go tw (by omega))); omega)
            obtain ⟨V45, hV45⟩ : ∃ z, z = up2 V18 47 (12 * b + (Int32.toNatClampNeg y17)) (V 41 b) := ⟨_, rfl⟩
            have ew46 : (xw ad kk V18 L Z).set (68 + b) ((ad (68 + b)), .inl ((kk (68 + b)), 12, .inl (upd (fun q => if q < 12 then V18 47 (12 * b + q) else 0) (Int32.toNatClampNeg y17) (V 41 b)))) = xw ad kk V45 L Z := by rw [hV45]; exact xpwrapOrder il36 kl44
            have hP : va_P D vwCl (xw ad kk V45 L Z) H := by rw [← ew46]; exact hP
            have hD : va_D A (xw ad kk V45 L Z) := by rw [← ew46]; exact hD
            have hMV45 : rgd bX V45 := hMV18.put hV45 (show 0 ≤ ((V 41 b)).toInt ∧ ((V 41 b)).toInt ≤ 11 from by first | exact om_ac45556e949d f3 xlp19_0 f34 | first | omega | ((try (have i_tw := Imp.go tw (by omega))); omega))
            have agV45 : agr [] [41, 47, 62, 63, 64, 65, 66] V V45 := agV18.up hV45 rfl
            have fwV45 : frX (xR b) V V45 := frX.up fwV18 hV45 (Or.inr ⟨(by show 12 * b ≤ (12 * b + (Int32.toNatClampNeg y17)); first | exact om_7de1662b5bb9 f34 kc43 | first | omega | ((try (have i_tw := Imp.go tw (by omega))); omega)), (by show (12 * b + (Int32.toNatClampNeg y17)) < 12 * b + 12; first | exact om_a546892b8cbc kl44 | first | omega | ((try (have i_tw := Imp.go tw (by omega))); omega))⟩)
            refine lv_aload_n hx hb dX0_addWrap_118 rfl (lv_at hl 2 rfl) ?_
            refine lv_dup hx hb dX0_addWrap_119 rfl ?_
            refine va_get (D := D) (ci := 0) (v := .int (V45 41 b)) (fs := (xfBook ad V45 b)) (C := RX0) (T := TX0) (N := 13) hx hb hg inX0 hown hK hP (38 + b) (xgBook hb2) rfl 11 (by decide) (hg _ w625) (fun _ h9 => h9) rfl dX0_addWrap_120 ?_
            refine g_top (v := (V 41 b)) ((up2_o hV45 (by decide)).trans ((ajV18 41 b rfl).trans ((up2_o hV15 (by decide)).trans ((up2_o hV13 (by decide)).trans ((up2_o hV11 (by decide)).trans ((up2_o hV9 (by decide)).trans (up2_o hV7 (by decide)))))))) ?_
            refine lv_iconst (v := 1) hx hb dX0_addWrap_123 (by decide) ?_
            refine lv_iadd hx hb dX0_addWrap_124 ?_
            refine lv_topi (fun z47 ez47 => ?_)
            have hz47 : z47.toInt = ((V 41 b)).toInt + 1 := i_add ez47 rfl (by decide) (by (first | exact om_03da05c7c545 f3 xlp19_0 f34 | omega))
            refine va_put (D := D) (ci := 0) (v := .int z47) (ty := tyX0 11) (fs := (xfBook ad V45 b)) (C := RX0) (T := TX0) (N := 13) hx hb hg inX0 tyX0 tyX0_ok nmX0 hown hK hP hD hS (38 + b) (xgBook hb2) rfl 11 (by decide) (hg _ w625) (fun _ h9 => h9) rfl (tyX0_ok 11 (by decide)) rfl rfl (Nat.le_of_ble_eq_true rfl) dX0_addWrap_125 (fun H locs hP hD hS => ?_)
            obtain ⟨V48, hV48⟩ : ∃ z, z = up2 V45 41 b z47 := ⟨_, rfl⟩
            have ew49 : (xw ad kk V45 L Z).set (38 + b) ((ad (38 + b)), .inr (0, (xfBook ad V45 b).set 11 (.int z47))) = xw ad kk V48 L Z := by rw [hV48]; exact xpBook_wrapCount hb2
            have hP : va_P D vwCl (xw ad kk V48 L Z) H := by rw [← ew49]; exact hP
            have hD : va_D A (xw ad kk V48 L Z) := by rw [← ew49]; exact hD
            have hMV48 : rgd bX V48 := hMV45.put hV48 (show 0 ≤ z47.toInt ∧ z47.toInt ≤ 12 from by first | exact om_371d5b098a1c f3 xlp19_0 f34 hz47 | first | omega | ((try (have i_tw := Imp.go tw (by omega))); omega))
            have agV48 : agr [] [41, 47, 62, 63, 64, 65, 66] V V48 := agV45.up hV48 rfl
            have fwV48 : frX (xR b) V V48 := frX.up fwV45 hV48 (Or.inr ⟨(by show b ≤ b; first | exact om_36cf446a3c95 | first | omega | ((try (have i_tw := Imp.go tw (by omega))); omega)), (by show b < b + 1; first | exact om_0bb971ab4ffe | first | omega | ((try (have i_tw := Imp.go tw (by omega))); omega))⟩)
            have pq50 : (V48 41 b).toInt = z47.toInt := congrArg Int32.toInt (up2_s hV48)
            have k41 := i_clamp (x := V 41 b) rfl (by (first | exact om_788bec03cc2a xlp19_0 f34 | omega))
            have rp51 : Imp ((V 41 b).toInt < 12) (∀ a : Nat, (a : Int) ≤ (V 41 b).toInt → (V48 47 (12 * b + a)).toInt ≤ (V 41 b).toInt) := Imp.mk (fun _ a ha => by rw [up2_o hV48 (show ¬ 47 = 41 from by decide)]; rcases Decidable.em (12 * b + a = (12 * b + (Int32.toNatClampNeg y17))) with h9 | h9; (rw [h9, up2_s hV45]; omega); (rw [up2_k hV45 h9]; have h8 := xlp19_2 a ha (by omega); omega))
            have rp52 : Imp ((V 41 b).toInt < 12) (∀ q : Nat, ¬ q = 12 * b + Int32.toNatClampNeg (V 41 b) → V48 66 q = V 66 q) := Imp.mk (fun _ q hq => ((((((((up2_o hV48 (by decide)).trans (up2_o hV45 (by decide))).trans (ajV18 66 _ rfl)).trans (up2_k hV15 (by omega))).trans (up2_o hV13 (by decide))).trans (up2_o hV11 (by decide))).trans (up2_o hV9 (by decide))).trans (up2_o hV7 (by decide))))
            have rp53 : Imp ((V 41 b).toInt < 12) (V48 66 (12 * b + Int32.toNatClampNeg (V 41 b)) = p4) := Imp.mk (fun _ => ((((up2_o hV48 (by decide)).trans (up2_o hV45 (by decide))).trans (ajV18 66 _ rfl)).trans (up2_s hV15)))
            exact W.vret hx hb hr (fun t ht hW => ⟨⟨(V48, L), rfl, ⟨hMV48, agV48, rfl, fwV48, (Imp.mk (fun hp => have hp : (V 41 b).toInt < 12 := hp; (show (V48 41 b).toInt = (V 41 b).toInt + 1 from by first | exact om_689eeacb6d53 hz47 pq50 | first | omega | ((try (have i_tw := Imp.go tw (by omega))); omega)))), rp51, rp52, rp53⟩, by rw [ht]; exact hP, va_K.moved hW.alike hK, hD⟩, hS.F ht⟩) hS.2.2 dX0_addWrap_128
          · skip
            have f54 : p2.toInt < ((V11 64 (12 * b + (Int32.toNatClampNeg (V18 47 (12 * b + (Int32.toNatClampNeg z35))))))).toInt := b_nle rfl rfl c41
            refine lv_aload_n hx hb dX0_addWrap_85 rfl (lv_at hl 2 rfl) ?_
            refine va_get (D := D) (ci := 0) (v := .ref (ad (68 + b))) (fs := (xfBook ad V18 b)) (C := RX0) (T := TX0) (N := 13) hx hb hg inX0 hown hK hP (38 + b) (xgBook hb2) rfl 9 (by decide) (hg _ w621) (fun _ h9 => h9) rfl dX0_addWrap_86 ?_
            refine lv_iload hx hb dX0_addWrap_89 (lv_at hl 0 rfl) ?_
            refine lv_aload_n hx hb dX0_addWrap_91 rfl (lv_at hl 2 rfl) ?_
            refine va_get (D := D) (ci := 0) (v := .ref (ad (68 + b))) (fs := (xfBook ad V18 b)) (C := RX0) (T := TX0) (N := 13) hx hb hg inX0 hown hK hP (38 + b) (xgBook hb2) rfl 9 (by decide) (hg _ w621) (fun _ h9 => h9) rfl dX0_addWrap_92 ?_
            refine lv_iload hx hb dX0_addWrap_95 (lv_at hl 0 rfl) ?_
            refine lv_iconst (v := 1) hx hb dX0_addWrap_97 (by decide) ?_
            refine lv_isub hx hb dX0_addWrap_98 ?_
            refine lv_topi (fun z55 ez55 => ?_)
            have hz55 : z55.toInt = y17.toInt - 1 := i_sub ez55 rfl (by decide) (by (first | exact om_d4dc5fc28acf klp19_0.2 f34 | omega))
            refine va_iald (D := D) (i := z55) hx hb hK hP (68 + b) (61 + b) (xgwrapOrder il36) (xtwrapOrder il36) (i_in (a := z55.toInt) rfl (by first | exact om_cb4190bf021a klp19_0.2 f34 hz55 | first | omega | ((try (have i_tw := Imp.go tw (by omega))); omega))) dX0_addWrap_99 ?_
            have kc56 := i_clamp (x := z55) rfl (by first | exact om_9271d0948665 f34 hz55 | first | omega | ((try (have i_tw := Imp.go tw (by omega))); omega))
            refine g_top (v := V18 47 (12 * b + (Int32.toNatClampNeg z55))) (if_pos (by first | omega | ((try (have i_tw := Imp.go tw (by omega))); omega))) ?_
            have r57 : 0 ≤ ((V18 47 (12 * b + (Int32.toNatClampNeg z55)))).toInt ∧ ((V18 47 (12 * b + (Int32.toNatClampNeg z55)))).toInt ≤ 11 := hMV18 47 (12 * b + (Int32.toNatClampNeg z55))
            have kz9 := i_clamp (x := z55) rfl (by (first | exact om_9271d0948665 f34 hz55 | omega))
            have k79 := i_clamp (x := y17) rfl (by (first | exact om_610a4af05d44 f34 | omega))
            have aw7 : (V18 47 (12 * b + (Int32.toNatClampNeg z55))).toInt < (V 41 b).toInt := xlp19_2 (Int32.toNatClampNeg z55) (by omega) (by omega)
            refine va_iast (D := D) (i := y17) (x := (V18 47 (12 * b + (Int32.toNatClampNeg z55)))) hx hb hK hP hD hS (68 + b) (61 + b) (xgwrapOrder il36) (xtwrapOrder il36) (i_in (a := y17.toInt) rfl (by first | exact om_e96f9555304e klp19_0.2 f34 | first | omega | ((try (have i_tw := Imp.go tw (by omega))); omega))) dX0_addWrap_100 (fun H locs hP hD hS => ?_)
            have kc58 := i_clamp (x := y17) rfl (by first | exact om_610a4af05d44 f34 | first | omega | ((try (have i_tw := Imp.go tw (by omega))); omega))
            have kl59 : (Int32.toNatClampNeg y17) < 12 := by first | exact om_004b84c8d7e3 klp19_0.2 k79 | first | omega | ((try (have i_tw := Imp.go tw (by omega))); omega)
            obtain ⟨V60, hV60⟩ : ∃ z, z = up2 V18 47 (12 * b + (Int32.toNatClampNeg y17)) (V18 47 (12 * b + (Int32.toNatClampNeg z55))) := ⟨_, rfl⟩
            have ew61 : (xw ad kk V18 L Z).set (68 + b) ((ad (68 + b)), .inl ((kk (68 + b)), 12, .inl (upd (fun q => if q < 12 then V18 47 (12 * b + q) else 0) (Int32.toNatClampNeg y17) (V18 47 (12 * b + (Int32.toNatClampNeg z55)))))) = xw ad kk V60 L Z := by rw [hV60]; exact xpwrapOrder il36 kl59
            have hP : va_P D vwCl (xw ad kk V60 L Z) H := by rw [← ew61]; exact hP
            have hD : va_D A (xw ad kk V60 L Z) := by rw [← ew61]; exact hD
            have hMV60 : rgd bX V60 := hMV18.put hV60 (show 0 ≤ ((V18 47 (12 * b + (Int32.toNatClampNeg z55)))).toInt ∧ ((V18 47 (12 * b + (Int32.toNatClampNeg z55)))).toInt ≤ 11 from by first | exact om_137426e8bfd2 f3 r57.1 aw7 | first | omega | ((try (have i_tw := Imp.go tw (by omega))); omega))
            have agV60 : agr [] [41, 47, 62, 63, 64, 65, 66] V V60 := agV18.up hV60 rfl
            have fwV60 : frX (xR b) V V60 := frX.up fwV18 hV60 (Or.inr ⟨(by show 12 * b ≤ (12 * b + (Int32.toNatClampNeg y17)); first | exact om_7de1662b5bb9 f34 k79 | first | omega | ((try (have i_tw := Imp.go tw (by omega))); omega)), (by show (12 * b + (Int32.toNatClampNeg y17)) < 12 * b + 12; first | exact om_a546892b8cbc kl59 | first | omega | ((try (have i_tw := Imp.go tw (by omega))); omega))⟩)
            obtain ⟨z62, ez62⟩ : ∃ y : Int32, y = y17 + (-1) := ⟨_, rfl⟩
            have hz62 : z62.toInt = y17.toInt + (-1) := i_add ez62 rfl (by decide) (by (first | exact om_2433073c4d98 f34 k79 kl59 | omega))
            refine lv_iinc (v := z62) (lv' := [(7, .int z62), (6, .ref (ad (312 + (12 * b + (Int32.toNatClampNeg (V 41 b)))))), (0, .ref (ad (38 + b))), (1, .int p0), (2, .int p1), (3, .int p2), (4, .int p3), (5, .int p4)]) hx hb dX0_addWrap_101 hl (k := 0) rfl (by rw [ez62]; rfl) (by decide) rfl (fun ls hl => ?_)
            refine lv_goto (tgt := 59) hx hb dX0_addWrap_104 (by decide) ?_
            exact ihlp19 z62 V60 H locs ls (by first | exact om_d03b8f4e00ac f34 k79 kl59 hz62 | first | omega | ((try (have i_tw := Imp.go tw (by omega))); omega)) (show z62.toInt ≤ (V 41 b).toInt from by first | exact om_e74f64d2f8f5 xlp19_0 hz62 | first | omega | ((try (have i_tw := Imp.go tw (by omega))); omega)) (show 0 ≤ z62.toInt from by first | exact om_8bedd7f35e90 f34 hz62 | first | omega | ((try (have i_tw := Imp.go tw (by omega))); omega)) (fun a h1 h2 => by rcases Decidable.em (12 * b + a = (12 * b + (Int32.toNatClampNeg y17))) with h9 | h9; (rw [h9, up2_s hV60]; exact aw7); (rw [up2_k hV60 h9]; exact xlp19_2 a h1 (by omega))) (by first | exact om_46f113951c8c hn hz62 | first | omega | ((try (have i_tw := Imp.go tw (by omega))); omega)) (agr.up (agr.tr agr.rf ajV18 (by decide) (by decide)) hV60 rfl) hMV60 fwV60 hP hD hS (lv_sub hl [0, 1, 2, 3, 4, 5, 6, 7] rfl)
    exact lp19 ((((V 41 b)).toInt + 1 : Int).toNat) (V 41 b) V15 H locs ls (by first | exact om_08e1aa59793b r1.1 f3 | first | omega | ((try (have i_tw := Imp.go tw (by omega))); omega)) (show ((V 41 b)).toInt ≤ (V 41 b).toInt from by first | exact om_5977f3d8a10f | first | omega | ((try (have i_tw := Imp.go tw (by omega))); omega)) (show 0 ≤ ((V 41 b)).toInt from by first | exact om_eafa9039069c r1.1 | first | omega | ((try (have i_tw := Imp.go tw (by omega))); omega)) (fun a h1 h2 => by rw [(show agr [] [62, 63, 64, 65, 66] V V15 from (agr.up (agr.up (agr.up (agr.up (agr.up agr.rf hV7 rfl) hV9 rfl) hV11 rfl) hV13 rfl) hV15 rfl)) 47 _ rfl]; exact tw a (by omega)) (by first | exact om_9011110baf36 | first | omega | ((try (have i_tw := Imp.go tw (by omega))); omega)) agr.rf hMV15 fwV15 hP hD hS (lv_sub hl [0, 1, 2, 3, 4, 5, 6, 7] rfl)
  · skip
    have f63 : 12 ≤ ((V 41 b)).toInt := b_nlt rfl (by decide) c2
    exact W.vret hx hb hr (fun t ht hW => ⟨⟨(V, L), rfl, ⟨hMV, agV, rfl, fwV, (Imp.mk (fun hp => have hp : (V 41 b).toInt < 12 := hp; (show (V 41 b).toInt = (V 41 b).toInt + 1 from by first | omega | ((try (have i_tw := Imp.go tw (by omega))); omega)))), (Imp.mk (fun hp => by exfalso; omega)), (Imp.mk (fun hp => by exfalso; omega)), (Imp.mk (fun hp => by exfalso; omega))⟩, by rw [ht]; exact hP, va_K.moved hW.alike hK, hD⟩, hS.F ht⟩) hS.2.2 dX0_addWrap_9
