/-! a new object in the stock -/
theorem SL.new {fs : List (Nat × Nat)} {cs : List Nat} {V W : Vf} {Z : XZ} {o : Nat} (h : SL V Z) (a : agr fs cs V W) (q15 : wrL fs cs 3 15 = false) (q32 : ∀ k, wrL fs cs 32 k = false) (ho : (o : Int) = (V 3 13).toInt) (h13 : (W 3 13).toInt = (V 3 13).toInt + 1) (n30 : ∀ q : Nat, 8 * o ≤ q → q < 8 * o + 8 → (W 30 q).toInt = -1) (e30 : ∀ q : Nat, ¬ (8 * o ≤ q ∧ q < 8 * o + 8) → W 30 q = V 30 q) (h0 : 0 ≤ (V 3 15).toInt) : SL W Z := by
  unfold SL
  rw [a _ _ q15]
  refine ⟨h.1, h.2.1, fun x k hx hk => ?_, fun i hi => by rw [a _ _ (q32 i)]; exact h.2.2.2 i hi⟩
  by_cases e : x = o
  · rw [e, n30 (8 * o + k) (by omega) (by omega)]
    omega
  · rw [e30 _ (by omega)]
    exact h.2.2.1 x k (by omega) hk

theorem w1292 : Cond.code yJ7_fill_fda19 cJ7_fill_fda19 5 none ∈ GW := gw_mem 1292 (by decide +kernel) rfl
theorem w1290 : Cond.methodLink RX8 80 yJ7_fill_fda19 ∈ GW := gw_mem 1290 (by decide +kernel) rfl
theorem w1291 : Cond.static yJ7_fill_fda19 ∈ GW := gw_mem 1291 (by decide +kernel) rfl
theorem hdS_yJ7_fill_fda19 : yJ7_fill_fda19.cls ≠ "java/lang/invoke/MethodHandle" ∧ yJ7_fill_fda19.cls ≠ "java/lang/invoke/VarHandle" ∧ (parseMethodDescriptor yJ7_fill_fda19.desc).map (fun d => d.parameters.length) = some 4 := by decide +kernel
theorem dX8_beginObject_0 : decode cX8_beginObject 0 = .ok (.aload_n 0, 1) := by decide +kernel
theorem dX8_beginObject_1 : decode cX8_beginObject 1 = .ok (.getfield 63, 3) := by decide +kernel
theorem dX8_beginObject_4 : decode cX8_beginObject 4 = .ok (.sipush 300, 3) := by decide +kernel
theorem dX8_beginObject_7 : decode cX8_beginObject 7 = .ok (.if_icmp .lt 5, 3) := by decide +kernel
theorem dX8_beginObject_12 : decode cX8_beginObject 12 = .ok (.aload_n 0, 1) := by decide +kernel
theorem dX8_beginObject_13 : decode cX8_beginObject 13 = .ok (.dup, 1) := by decide +kernel
theorem dX8_beginObject_14 : decode cX8_beginObject 14 = .ok (.getfield 63, 3) := by decide +kernel
theorem dX8_beginObject_17 : decode cX8_beginObject 17 = .ok (.dup_x1, 1) := by decide +kernel
theorem dX8_beginObject_18 : decode cX8_beginObject 18 = .ok (.iconst 1, 1) := by decide +kernel
theorem dX8_beginObject_19 : decode cX8_beginObject 19 = .ok (.iadd, 1) := by decide +kernel
theorem dX8_beginObject_20 : decode cX8_beginObject 20 = .ok (.putfield 63, 3) := by decide +kernel
theorem dX8_beginObject_23 : decode cX8_beginObject 23 = .ok (.istore 4, 2) := by decide +kernel
theorem dX8_beginObject_25 : decode cX8_beginObject 25 = .ok (.aload_n 0, 1) := by decide +kernel
theorem dX8_beginObject_26 : decode cX8_beginObject 26 = .ok (.getfield 28, 3) := by decide +kernel
theorem dX8_beginObject_29 : decode cX8_beginObject 29 = .ok (.iload 4, 2) := by decide +kernel
theorem dX8_beginObject_31 : decode cX8_beginObject 31 = .ok (.iload_n 1, 1) := by decide +kernel
theorem dX8_beginObject_32 : decode cX8_beginObject 32 = .ok (.iastore, 1) := by decide +kernel
theorem dX8_beginObject_33 : decode cX8_beginObject 33 = .ok (.aload_n 0, 1) := by decide +kernel
theorem dX8_beginObject_34 : decode cX8_beginObject 34 = .ok (.getfield 31, 3) := by decide +kernel
theorem dX8_beginObject_37 : decode cX8_beginObject 37 = .ok (.iload 4, 2) := by decide +kernel
theorem dX8_beginObject_39 : decode cX8_beginObject 39 = .ok (.iload_n 2, 1) := by decide +kernel
theorem dX8_beginObject_40 : decode cX8_beginObject 40 = .ok (.iastore, 1) := by decide +kernel
theorem dX8_beginObject_41 : decode cX8_beginObject 41 = .ok (.aload_n 0, 1) := by decide +kernel
theorem dX8_beginObject_42 : decode cX8_beginObject 42 = .ok (.getfield 34, 3) := by decide +kernel
theorem dX8_beginObject_45 : decode cX8_beginObject 45 = .ok (.iload 4, 2) := by decide +kernel
theorem dX8_beginObject_47 : decode cX8_beginObject 47 = .ok (.iconst 0, 1) := by decide +kernel
theorem dX8_beginObject_48 : decode cX8_beginObject 48 = .ok (.iastore, 1) := by decide +kernel
theorem dX8_beginObject_49 : decode cX8_beginObject 49 = .ok (.aload_n 0, 1) := by decide +kernel
theorem dX8_beginObject_50 : decode cX8_beginObject 50 = .ok (.getfield 40, 3) := by decide +kernel
theorem dX8_beginObject_53 : decode cX8_beginObject 53 = .ok (.iload 4, 2) := by decide +kernel
theorem dX8_beginObject_55 : decode cX8_beginObject 55 = .ok (.bipush 8, 2) := by decide +kernel
theorem dX8_beginObject_57 : decode cX8_beginObject 57 = .ok (.imul, 1) := by decide +kernel
theorem dX8_beginObject_58 : decode cX8_beginObject 58 = .ok (.iload 4, 2) := by decide +kernel
theorem dX8_beginObject_60 : decode cX8_beginObject 60 = .ok (.bipush 8, 2) := by decide +kernel
theorem dX8_beginObject_62 : decode cX8_beginObject 62 = .ok (.imul, 1) := by decide +kernel
theorem dX8_beginObject_63 : decode cX8_beginObject 63 = .ok (.bipush 8, 2) := by decide +kernel
theorem dX8_beginObject_65 : decode cX8_beginObject 65 = .ok (.iadd, 1) := by decide +kernel
theorem dX8_beginObject_66 : decode cX8_beginObject 66 = .ok (.iconst (-1), 1) := by decide +kernel
theorem dX8_beginObject_67 : decode cX8_beginObject 67 = .ok (.invokestatic 80, 3) := by decide +kernel
theorem dX8_beginObject_70 : decode cX8_beginObject 70 = .ok (.iload_n 3, 1) := by decide +kernel
theorem dX8_beginObject_71 : decode cX8_beginObject 71 = .ok (.ifCond .eq 16, 3) := by decide +kernel
theorem dX8_beginObject_87 : decode cX8_beginObject 87 = .ok (.iload 4, 2) := by decide +kernel
theorem dX8_beginObject_89 : decode cX8_beginObject 89 = .ok (.ireturn, 1) := by decide +kernel
theorem dX8_beginObject_74 : decode cX8_beginObject 74 = .ok (.aload_n 0, 1) := by decide +kernel
theorem dX8_beginObject_75 : decode cX8_beginObject 75 = .ok (.getfield 25, 3) := by decide +kernel
theorem dX8_beginObject_78 : decode cX8_beginObject 78 = .ok (.iload_n 2, 1) := by decide +kernel
theorem dX8_beginObject_79 : decode cX8_beginObject 79 = .ok (.bipush 24, 2) := by decide +kernel
theorem dX8_beginObject_81 : decode cX8_beginObject 81 = .ok (.imul, 1) := by decide +kernel
theorem dX8_beginObject_82 : decode cX8_beginObject 82 = .ok (.iload_n 1, 1) := by decide +kernel
theorem dX8_beginObject_83 : decode cX8_beginObject 83 = .ok (.iadd, 1) := by decide +kernel
theorem dX8_beginObject_84 : decode cX8_beginObject 84 = .ok (.iload 4, 2) := by decide +kernel
theorem dX8_beginObject_86 : decode cX8_beginObject 86 = .ok (.iastore, 1) := by decide +kernel
theorem dX8_beginObject_10 : decode cX8_beginObject 10 = .ok (.iconst (-1), 1) := by decide +kernel
theorem dX8_beginObject_11 : decode cX8_beginObject 11 = .ok (.ireturn, 1) := by decide +kernel
abbrev r_x_beginObject : Room := { frames := 2, cells := 0, slots := 0, locals := 46 }
abbrev q_x_beginObject (D : va_G) (ks : KS) (ad : Nat → Nat) (kk : Nat → ClassId) (V : Vf) (L : Lf) (Z : XZ) (p0 : Int32) (p1 : Int32) (p2 : Int32) (A : Nat → Prop) : Array Value → State → Outcome → State → Prop := va_Qi (fun (r : Int32) (u : Vf × Lf) => rgd bX u.1 ∧ agr [(3, 13)] [25, 26, 27, 28, 30] V u.1 ∧ u.2 = L ∧ ((-1) ≤ r.toInt ∧ r.toInt ≤ 299) ∧ (SL u.1 Z) ∧ (Imp (0 ≤ r.toInt) (∀ q : Nat, 8 * Int32.toNatClampNeg (V 3 13) ≤ q → q < 8 * Int32.toNatClampNeg (V 3 13) + 8 → (u.1 30 q).toInt = -1)) ∧ (Imp (0 ≤ r.toInt) (∀ q : Nat, ¬ (8 * Int32.toNatClampNeg (V 3 13) ≤ q ∧ q < 8 * Int32.toNatClampNeg (V 3 13) + 8) → u.1 30 q = V 30 q)) ∧ (Imp (0 ≤ r.toInt) (∀ q : Nat, ¬ q = Int32.toNatClampNeg (V 3 13) → u.1 26 q = V 26 q)) ∧ (Imp (0 ≤ r.toInt) (r.toInt = (V 3 13).toInt ∧ (u.1 3 13).toInt = (V 3 13).toInt + 1)) ∧ (Imp (r.toInt = -1) ((u.1 3 13).toInt = (V 3 13).toInt))) (fun u t => gq D A (xw ad kk u.1 u.2 Z) (xty kk Z) t) A
set_option maxHeartbeats 4000000 in
set_option maxRecDepth 100000 in
theorem x_beginObject (l : Launch) (D : va_G) (ks : KS) (sz : Nat) (ad : Nat → Nat) (kk : Nat → ClassId) (V : Vf) (L : Lf) (Z : XZ) (p0 : Int32) (p1 : Int32) (p2 : Int32) (hMV : rgd bX V) (rg_p0 : 0 ≤ p0.toInt ∧ p0.toInt ≤ 23) (rg_p1 : 0 ≤ p1.toInt ∧ p1.toInt ≤ 39) (rg_p2 : 0 ≤ p2.toInt ∧ p2.toInt ≤ 1) (sl : SL V Z)  : Met l yX8_beginObject (Cond.code yX8_beginObject cX8_beginObject 5 (some .int) :: GW) r_x_beginObject (va_Pc [.ref (ad 3), .int p0, .int p1, .int p2] (gp D ks (xw ad kk V L Z) (xty kk Z) sz)) (q_x_beginObject D ks ad kk V L Z p0 p1 p2 (va_A (xw ad kk V L Z) sz)) 0 0 (va_A (xw ad kk V L Z) sz) := by
  refine g_met (q_x_beginObject D ks ad kk V L Z p0 p1 p2) (by decide) (Nat.le_of_ble_eq_true rfl) ?_
  intro p e s m below meth c A ls H locs hx hb hr hml hown hg hlocks hin hnw hgk hP hK hD hS hA hl
  have hown : s.vm.findClass RX8 = some m.cls := hown
  have hl : lv_has ls 5 [(0, .ref (ad 3)), (1, .int p0), (2, .int p1), (3, .int p2)] := hl
  have hP : va_P D vwCl (xw ad kk V L Z) H := hP
  have hD : va_D A (xw ad kk V L Z) := hD
  have hK : va_K D vwCl (xty kk Z) s := hK
  have agV : agr [(3, 13)] [25, 26, 27, 28, 30] V V := agr.rf
  refine lv_aload_n hx hb dX8_beginObject_0 rfl (lv_at hl 0 rfl) ?_
  refine va_get (D := D) (ci := 8) (v := .int (V 3 13)) (fs := (xfStock ad V L Z)) (C := RX8) (T := TX8) (N := 16) hx hb hg inX8 hown hK hP 3 xgStock rfl 13 (by decide) (hg _ w391) (fun _ h9 => h9) rfl dX8_beginObject_1 ?_
  have r1 : 0 ≤ ((V 3 13)).toInt ∧ ((V 3 13)).toInt ≤ 300 := hMV 3 13
  refine lv_sipush (v := 300) hx hb dX8_beginObject_4 (by decide) ?_
  refine lv_icmp_lt (tgt := 12) hx hb dX8_beginObject_7 (by decide) (fun c2 => ?_) (fun c2 => ?_)
  · skip
    have f3 : ((V 3 13)).toInt < 300 := b_lt rfl (by decide) c2
    refine lv_aload_n hx hb dX8_beginObject_12 rfl (lv_at hl 0 rfl) ?_
    refine lv_dup hx hb dX8_beginObject_13 rfl ?_
    refine va_get (D := D) (ci := 8) (v := .int (V 3 13)) (fs := (xfStock ad V L Z)) (C := RX8) (T := TX8) (N := 16) hx hb hg inX8 hown hK hP 3 xgStock rfl 13 (by decide) (hg _ w391) (fun _ h9 => h9) rfl dX8_beginObject_14 ?_
    refine lv_dup_x1 hx hb dX8_beginObject_17 rfl rfl ?_
    refine lv_iconst (v := 1) hx hb dX8_beginObject_18 (by decide) ?_
    refine lv_iadd hx hb dX8_beginObject_19 ?_
    refine lv_topi (fun z4 ez4 => ?_)
    have hz4 : z4.toInt = ((V 3 13)).toInt + 1 := i_add ez4 rfl (by decide) (by omega)
    refine va_put (D := D) (ci := 8) (v := .int z4) (ty := tyX8 13) (fs := (xfStock ad V L Z)) (C := RX8) (T := TX8) (N := 16) hx hb hg inX8 tyX8 tyX8_ok nmX8 hown hK hP hD hS 3 xgStock rfl 13 (by decide) (hg _ w391) (fun _ h9 => h9) rfl (tyX8_ok 13 (by decide)) rfl rfl (Nat.le_of_ble_eq_true rfl) dX8_beginObject_20 (fun H locs hP hD hS => ?_)
    obtain ⟨V5, hV5⟩ : ∃ z, z = up2 V 3 13 z4 := ⟨_, rfl⟩
    have ew6 : (xw ad kk V L Z).set 3 ((ad 3), .inr (8, (xfStock ad V L Z).set 13 (.int z4))) = xw ad kk V5 L Z := by rw [hV5]; exact xw_ss (by decide) rfl (xb_si (by decide))
    have hP : va_P D vwCl (xw ad kk V5 L Z) H := by rw [← ew6]; exact hP
    have hD : va_D A (xw ad kk V5 L Z) := by rw [← ew6]; exact hD
    have hMV5 : rgd bX V5 := hMV.put hV5 (show 0 ≤ z4.toInt ∧ z4.toInt ≤ 300 from by first | omega | ((try (have i_sl := Imp.go sl (by omega))); omega))
    have agV5 : agr [(3, 13)] [25, 26, 27, 28, 30] V V5 := agV.up hV5 rfl
    refine lv_istore (lv' := [(4, .int (V 3 13)), (0, .ref (ad 3)), (1, .int p0), (2, .int p1), (3, .int p2)]) hx hb dX8_beginObject_23 hl (by decide) rfl (fun ls hl => ?_)
    refine lv_aload_n hx hb dX8_beginObject_25 rfl (lv_at hl 1 rfl) ?_
    refine va_get (D := D) (ci := 8) (v := .ref (ad 23)) (fs := (xfStock ad V5 L Z)) (C := RX8) (T := TX8) (N := 16) hx hb hg inX8 hown hK hP 3 xgStock rfl 5 (by decide) (hg _ w379) (fun _ h9 => h9) rfl dX8_beginObject_26 ?_
    refine lv_iload hx hb dX8_beginObject_29 (lv_at hl 0 rfl) ?_
    refine lv_iload_n hx hb dX8_beginObject_31 rfl (lv_at hl 2 rfl) ?_
    refine va_iast (D := D) (i := (V 3 13)) (x := p0) hx hb hK hP hD hS 23 16 rfl rfl (i_in (a := ((V 3 13)).toInt) rfl (by first | omega | ((try (have i_sl := Imp.go sl (by omega))); omega))) dX8_beginObject_32 (fun H locs hP hD hS => ?_)
    obtain ⟨V7, hV7⟩ : ∃ z, z = up2 V5 26 (Int32.toNatClampNeg (V 3 13)) p0 := ⟨_, rfl⟩
    have ew8 : (xw ad kk V5 L Z).set 23 ((ad 23), .inl ((kk 23), 300, .inl (upd (V5 26) (Int32.toNatClampNeg (V 3 13)) p0))) = xw ad kk V7 L Z := by rw [hV7]; exact xw_ss (by decide) rfl (xb_si (by decide))
    have hP : va_P D vwCl (xw ad kk V7 L Z) H := by rw [← ew8]; exact hP
    have hD : va_D A (xw ad kk V7 L Z) := by rw [← ew8]; exact hD
    have hMV7 : rgd bX V7 := hMV5.put hV7 (show 0 ≤ p0.toInt ∧ p0.toInt ≤ 23 from by first | omega | ((try (have i_sl := Imp.go sl (by omega))); omega))
    have agV7 : agr [(3, 13)] [25, 26, 27, 28, 30] V V7 := agV5.up hV7 rfl
    refine lv_aload_n hx hb dX8_beginObject_33 rfl (lv_at hl 1 rfl) ?_
    refine va_get (D := D) (ci := 8) (v := .ref (ad 24)) (fs := (xfStock ad V7 L Z)) (C := RX8) (T := TX8) (N := 16) hx hb hg inX8 hown hK hP 3 xgStock rfl 6 (by decide) (hg _ w381) (fun _ h9 => h9) rfl dX8_beginObject_34 ?_
    refine lv_iload hx hb dX8_beginObject_37 (lv_at hl 0 rfl) ?_
    refine lv_iload_n hx hb dX8_beginObject_39 rfl (lv_at hl 3 rfl) ?_
    refine va_iast (D := D) (i := (V 3 13)) (x := p1) hx hb hK hP hD hS 24 17 rfl rfl (i_in (a := ((V 3 13)).toInt) rfl (by first | omega | ((try (have i_sl := Imp.go sl (by omega))); omega))) dX8_beginObject_40 (fun H locs hP hD hS => ?_)
    obtain ⟨V9, hV9⟩ : ∃ z, z = up2 V7 27 (Int32.toNatClampNeg (V 3 13)) p1 := ⟨_, rfl⟩
    have ew10 : (xw ad kk V7 L Z).set 24 ((ad 24), .inl ((kk 24), 300, .inl (upd (V7 27) (Int32.toNatClampNeg (V 3 13)) p1))) = xw ad kk V9 L Z := by rw [hV9]; exact xw_ss (by decide) rfl (xb_si (by decide))
    have hP : va_P D vwCl (xw ad kk V9 L Z) H := by rw [← ew10]; exact hP
    have hD : va_D A (xw ad kk V9 L Z) := by rw [← ew10]; exact hD
    have hMV9 : rgd bX V9 := hMV7.put hV9 (show 0 ≤ p1.toInt ∧ p1.toInt ≤ 39 from by first | omega | ((try (have i_sl := Imp.go sl (by omega))); omega))
    have agV9 : agr [(3, 13)] [25, 26, 27, 28, 30] V V9 := agV7.up hV9 rfl
    refine lv_aload_n hx hb dX8_beginObject_41 rfl (lv_at hl 1 rfl) ?_
    refine va_get (D := D) (ci := 8) (v := .ref (ad 25)) (fs := (xfStock ad V9 L Z)) (C := RX8) (T := TX8) (N := 16) hx hb hg inX8 hown hK hP 3 xgStock rfl 7 (by decide) (hg _ w384) (fun _ h9 => h9) rfl dX8_beginObject_42 ?_
    refine lv_iload hx hb dX8_beginObject_45 (lv_at hl 0 rfl) ?_
    refine lv_iconst (v := 0) hx hb dX8_beginObject_47 (by decide) ?_
    refine va_iast (D := D) (i := (V 3 13)) (x := 0) hx hb hK hP hD hS 25 18 rfl rfl (i_in (a := ((V 3 13)).toInt) rfl (by first | omega | ((try (have i_sl := Imp.go sl (by omega))); omega))) dX8_beginObject_48 (fun H locs hP hD hS => ?_)
    obtain ⟨V11, hV11⟩ : ∃ z, z = up2 V9 28 (Int32.toNatClampNeg (V 3 13)) 0 := ⟨_, rfl⟩
    have ew12 : (xw ad kk V9 L Z).set 25 ((ad 25), .inl ((kk 25), 300, .inl (upd (V9 28) (Int32.toNatClampNeg (V 3 13)) 0))) = xw ad kk V11 L Z := by rw [hV11]; exact xw_ss (by decide) rfl (xb_si (by decide))
    have hP : va_P D vwCl (xw ad kk V11 L Z) H := by rw [← ew12]; exact hP
    have hD : va_D A (xw ad kk V11 L Z) := by rw [← ew12]; exact hD
    have hMV11 : rgd bX V11 := hMV9.put hV11 (i_full _)
    have agV11 : agr [(3, 13)] [25, 26, 27, 28, 30] V V11 := agV9.up hV11 rfl
    refine lv_aload_n hx hb dX8_beginObject_49 rfl (lv_at hl 1 rfl) ?_
    refine va_get (D := D) (ci := 8) (v := .ref (ad 27)) (fs := (xfStock ad V11 L Z)) (C := RX8) (T := TX8) (N := 16) hx hb hg inX8 hown hK hP 3 xgStock rfl 9 (by decide) (hg _ w387) (fun _ h9 => h9) rfl dX8_beginObject_50 ?_
    refine lv_iload hx hb dX8_beginObject_53 (lv_at hl 0 rfl) ?_
    refine lv_bipush (v := 8) hx hb dX8_beginObject_55 (by decide) ?_
    refine lv_imul hx hb dX8_beginObject_57 ?_
    refine lv_topi (fun z13 ez13 => ?_)
    have hz13 : z13.toInt = ((V 3 13)).toInt * 8 := i_mul ez13 rfl (by decide) (by omega)
    refine lv_iload hx hb dX8_beginObject_58 (lv_at hl 0 rfl) ?_
    refine lv_bipush (v := 8) hx hb dX8_beginObject_60 (by decide) ?_
    refine lv_imul hx hb dX8_beginObject_62 ?_
    refine lv_topi (fun z14 ez14 => ?_)
    have hz14 : z14.toInt = ((V 3 13)).toInt * 8 := i_mul ez14 rfl (by decide) (by omega)
    refine lv_bipush (v := 8) hx hb dX8_beginObject_63 (by decide) ?_
    refine lv_iadd hx hb dX8_beginObject_65 ?_
    refine lv_topi (fun z15 ez15 => ?_)
    have hz15 : z15.toInt = z14.toInt + 8 := i_add ez15 rfl (by decide) (by omega)
    refine lv_iconst (v := (-1)) hx hb dX8_beginObject_66 (by decide) ?_
    have r16 : Int32.toInt (-1) = (-1) := by decide
    refine gA_void (gA_runS (As := [.ref (ad 27), .int z13, .int z15, .int (-1)]) (rest := []) hx hb hml hown hg hP hD hK hS hA hnw hgk (x_fillChains l D ks H.size ad kk V11 L Z z13 z15 (-1) hMV11 (by first | omega | ((try (have i_sl := Imp.go sl (by omega))); omega)) (by first | omega | ((try (have i_sl := Imp.go sl (by omega))); omega)) (by decide) (show z13.toInt ≤ z15.toInt from by first | omega | ((try (have i_sl := Imp.go sl (by omega))); omega))) w1290 w1291 w165 w1292 hdS_yJ7_fill_fda19 ⟨Nat.le_of_ble_eq_true rfl, Nat.le_of_ble_eq_true rfl⟩ rfl hl.1 rfl (Nat.le_of_ble_eq_true rfl) dX8_beginObject_67 ⟨Nat.le_of_ble_eq_true rfl, Nat.le_of_ble_eq_true rfl⟩) hP hD hK hS hA (fun u18 H locs w19 hP hD hK hS => ?_)
    obtain ⟨V22, L23⟩ := u18
    obtain ⟨hMV22, ajV22, axL23, t20, t21⟩ := w19
    have axL23 : L = L23 := Eq.symm axL23
    subst axL23
    have hP : va_P D vwCl (xw ad kk V22 L Z) H := hP
    have hD : va_D A (xw ad kk V22 L Z) := hD
    have hMV22 : rgd bX V22 := hMV22
    have ajV22 : agr [] [30] V11 V22 := ajV22
    have agV22 : agr [(3, 13)] [25, 26, 27, 28, 30] V V22 := agV11.tr ajV22 (by decide) (by decide)
    have t20 : (∀ q : Nat, z13.toInt ≤ (q : Int) → (q : Int) < z15.toInt → V22 30 (q) = (-1)) := t20
    have t21 : (∀ q : Nat, ¬ (Int32.toNatClampNeg z13 ≤ q ∧ q < Int32.toNatClampNeg z15) → V22 30 q = V11 30 q) := t21
    refine lv_iload_n hx hb dX8_beginObject_70 rfl (lv_at hl 4 rfl) ?_
    refine lv_if_eq (tgt := 87) hx hb dX8_beginObject_71 (by decide) (fun c24 => ?_) (fun c24 => ?_)
    · skip
      have f25 : p2.toInt = 0 := b_eq rfl (by decide) c24
      refine lv_iload hx hb dX8_beginObject_87 (lv_at hl 0 rfl) ?_
      have pq26 : (V22 3 13).toInt = z4.toInt := congrArg Int32.toInt ((ajV22 3 13 rfl).trans ((up2_o hV11 (by decide)).trans ((up2_o hV9 (by decide)).trans ((up2_o hV7 (by decide)).trans (up2_s hV5)))))
      have ko9 := i_clamp (x := V 3 13) rfl (by omega)
      have k81 := i_clamp (x := z13) rfl (by omega)
      have k82 := i_clamp (x := z15) rfl (by omega)
      have bn : ∀ q : Nat, 8 * Int32.toNatClampNeg (V 3 13) ≤ q → q < 8 * Int32.toNatClampNeg (V 3 13) + 8 → (V22 30 q).toInt = -1 := fun q h1 h2 => by rw [(show agr [] [] V22 V22 from agr.rf) 30 _ rfl, t20 q (by omega) (by omega)]; decide
      have be : ∀ q : Nat, ¬ (8 * Int32.toNatClampNeg (V 3 13) ≤ q ∧ q < 8 * Int32.toNatClampNeg (V 3 13) + 8) → V22 30 q = V 30 q := fun q hq => (((show agr [] [] V22 V22 from agr.rf) 30 _ rfl).trans (t21 q (by omega))).trans ((show agr [(3, 13)] [26, 27, 28] V V11 from (agr.up (agr.up (agr.up (agr.up agr.rf hV5 rfl) hV7 rfl) hV9 rfl) hV11 rfl)) 30 _ rfl)
      have rp27 : SL V22 Z := SL.new (o := Int32.toNatClampNeg (V 3 13)) sl agV22 rfl (fun _ => rfl) (by omega) (by omega) bn be (hMV 3 15).1
      have rp28 : Imp (0 ≤ ((V 3 13)).toInt) (∀ q : Nat, ¬ q = Int32.toNatClampNeg (V 3 13) → V22 26 q = V 26 q) := Imp.mk (fun _ q hq => (((((ajV22 26 _ rfl).trans (up2_o hV11 (by decide))).trans (up2_o hV9 (by decide))).trans (up2_k hV7 hq)).trans (up2_o hV5 (by decide))))
      exact W.iret (v := (V 3 13)) hx hb hr (fun t ht hW => ⟨⟨(V 3 13), (V22, L), rfl, ⟨hMV22, agV22, rfl, (show (-1) ≤ ((V 3 13)).toInt ∧ ((V 3 13)).toInt ≤ 299 from by first | omega | ((try (have i_sl := Imp.go sl (by omega))); omega)), rp27, (Imp.mk (fun _ => bn)), (Imp.mk (fun _ => be)), rp28, (Imp.mk (fun hp => have hp : 0 ≤ ((V 3 13)).toInt := hp; (show ((V 3 13)).toInt = (V 3 13).toInt ∧ (V22 3 13).toInt = (V 3 13).toInt + 1 from by first | omega | ((try (have i_sl := Imp.go sl (by omega))); omega)))), (Imp.mk (fun hp => have hp : ((V 3 13)).toInt = -1 := hp; (show (V22 3 13).toInt = (V 3 13).toInt from by first | omega | ((try (have i_sl := Imp.go sl (by omega))); omega))))⟩, by rw [ht]; exact hP, va_K.moved hW.alike hK, hD⟩, hS.F ht⟩) hS.2.2 dX8_beginObject_89
    · skip
      have f29 : p2.toInt ≠ 0 := b_neq rfl (by decide) c24
      refine lv_aload_n hx hb dX8_beginObject_74 rfl (lv_at hl 1 rfl) ?_
      refine va_get (D := D) (ci := 8) (v := .ref (ad 22)) (fs := (xfStock ad V22 L Z)) (C := RX8) (T := TX8) (N := 16) hx hb hg inX8 hown hK hP 3 xgStock rfl 4 (by decide) (hg _ w378) (fun _ h9 => h9) rfl dX8_beginObject_75 ?_
      refine lv_iload_n hx hb dX8_beginObject_78 rfl (lv_at hl 3 rfl) ?_
      refine lv_bipush (v := 24) hx hb dX8_beginObject_79 (by decide) ?_
      refine lv_imul hx hb dX8_beginObject_81 ?_
      refine lv_topi (fun z30 ez30 => ?_)
      have hz30 : z30.toInt = p1.toInt * 24 := i_mul ez30 rfl (by decide) (by omega)
      refine lv_iload_n hx hb dX8_beginObject_82 rfl (lv_at hl 2 rfl) ?_
      refine lv_iadd hx hb dX8_beginObject_83 ?_
      refine lv_topi (fun z31 ez31 => ?_)
      have hz31 : z31.toInt = z30.toInt + p0.toInt := i_add ez31 rfl rfl (by omega)
      refine lv_iload hx hb dX8_beginObject_84 (lv_at hl 0 rfl) ?_
      refine va_iast (D := D) (i := z31) (x := (V 3 13)) hx hb hK hP hD hS 22 15 rfl rfl (i_in (a := z31.toInt) rfl (by first | omega | ((try (have i_sl := Imp.go sl (by omega))); omega))) dX8_beginObject_86 (fun H locs hP hD hS => ?_)
      obtain ⟨V32, hV32⟩ : ∃ z, z = up2 V22 25 (Int32.toNatClampNeg z31) (V 3 13) := ⟨_, rfl⟩
      have ew33 : (xw ad kk V22 L Z).set 22 ((ad 22), .inl ((kk 22), 960, .inl (upd (V22 25) (Int32.toNatClampNeg z31) (V 3 13)))) = xw ad kk V32 L Z := by rw [hV32]; exact xw_ss (by decide) rfl (xb_si (by decide))
      have hP : va_P D vwCl (xw ad kk V32 L Z) H := by rw [← ew33]; exact hP
      have hD : va_D A (xw ad kk V32 L Z) := by rw [← ew33]; exact hD
      have hMV32 : rgd bX V32 := hMV22.put hV32 (show (-1) ≤ ((V 3 13)).toInt ∧ ((V 3 13)).toInt ≤ 299 from by first | omega | ((try (have i_sl := Imp.go sl (by omega))); omega))
      have agV32 : agr [(3, 13)] [25, 26, 27, 28, 30] V V32 := agV22.up hV32 rfl
      refine lv_iload hx hb dX8_beginObject_87 (lv_at hl 0 rfl) ?_
      have pq34 : (V32 3 13).toInt = z4.toInt := congrArg Int32.toInt ((up2_o hV32 (by decide)).trans ((ajV22 3 13 rfl).trans ((up2_o hV11 (by decide)).trans ((up2_o hV9 (by decide)).trans ((up2_o hV7 (by decide)).trans (up2_s hV5))))))
      have ko9 := i_clamp (x := V 3 13) rfl (by omega)
      have k81 := i_clamp (x := z13) rfl (by omega)
      have k82 := i_clamp (x := z15) rfl (by omega)
      have bn : ∀ q : Nat, 8 * Int32.toNatClampNeg (V 3 13) ≤ q → q < 8 * Int32.toNatClampNeg (V 3 13) + 8 → (V32 30 q).toInt = -1 := fun q h1 h2 => by rw [(show agr [] [25] V22 V32 from (agr.up agr.rf hV32 rfl)) 30 _ rfl, t20 q (by omega) (by omega)]; decide
      have be : ∀ q : Nat, ¬ (8 * Int32.toNatClampNeg (V 3 13) ≤ q ∧ q < 8 * Int32.toNatClampNeg (V 3 13) + 8) → V32 30 q = V 30 q := fun q hq => (((show agr [] [25] V22 V32 from (agr.up agr.rf hV32 rfl)) 30 _ rfl).trans (t21 q (by omega))).trans ((show agr [(3, 13)] [26, 27, 28] V V11 from (agr.up (agr.up (agr.up (agr.up agr.rf hV5 rfl) hV7 rfl) hV9 rfl) hV11 rfl)) 30 _ rfl)
      have rp35 : SL V32 Z := SL.new (o := Int32.toNatClampNeg (V 3 13)) sl agV32 rfl (fun _ => rfl) (by omega) (by omega) bn be (hMV 3 15).1
      have rp36 : Imp (0 ≤ ((V 3 13)).toInt) (∀ q : Nat, ¬ q = Int32.toNatClampNeg (V 3 13) → V32 26 q = V 26 q) := Imp.mk (fun _ q hq => ((((((up2_o hV32 (by decide)).trans (ajV22 26 _ rfl)).trans (up2_o hV11 (by decide))).trans (up2_o hV9 (by decide))).trans (up2_k hV7 hq)).trans (up2_o hV5 (by decide))))
      exact W.iret (v := (V 3 13)) hx hb hr (fun t ht hW => ⟨⟨(V 3 13), (V32, L), rfl, ⟨hMV32, agV32, rfl, (show (-1) ≤ ((V 3 13)).toInt ∧ ((V 3 13)).toInt ≤ 299 from by first | omega | ((try (have i_sl := Imp.go sl (by omega))); omega)), rp35, (Imp.mk (fun _ => bn)), (Imp.mk (fun _ => be)), rp36, (Imp.mk (fun hp => have hp : 0 ≤ ((V 3 13)).toInt := hp; (show ((V 3 13)).toInt = (V 3 13).toInt ∧ (V32 3 13).toInt = (V 3 13).toInt + 1 from by first | omega | ((try (have i_sl := Imp.go sl (by omega))); omega)))), (Imp.mk (fun hp => have hp : ((V 3 13)).toInt = -1 := hp; (show (V32 3 13).toInt = (V 3 13).toInt from by first | omega | ((try (have i_sl := Imp.go sl (by omega))); omega))))⟩, by rw [ht]; exact hP, va_K.moved hW.alike hK, hD⟩, hS.F ht⟩) hS.2.2 dX8_beginObject_89
  · skip
    have f37 : 300 ≤ ((V 3 13)).toInt := b_nlt rfl (by decide) c2
    refine lv_iconst (v := (-1)) hx hb dX8_beginObject_10 (by decide) ?_
    exact W.iret (v := (-1)) hx hb hr (fun t ht hW => ⟨⟨(-1), (V, L), rfl, ⟨hMV, agV, rfl, (by decide), sl, (Imp.mk (fun hp => absurd hp (by decide))), (Imp.mk (fun hp => absurd hp (by decide))), (Imp.mk (fun hp => absurd hp (by decide))), (Imp.mk (fun hp => absurd hp (by decide))), (Imp.mk (fun _ => (show (V 3 13).toInt = (V 3 13).toInt from by first | omega | ((try (have i_sl := Imp.go sl (by omega))); omega))))⟩, by rw [ht]; exact hP, va_K.moved hW.alike hK, hD⟩, hS.F ht⟩) hS.2.2 dX8_beginObject_11
