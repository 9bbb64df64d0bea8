/-- one order was laid at A, nothing else of the code has changed -/
def emitted (V W : Vf) (A : Nat) (a b c : Int32) : Prop := (W 45 A = a ∧ W 46 A = b ∧ W 47 A = c) ∧ ∀ i, i ≠ A → W 45 i = V 45 i ∧ W 46 i = V 46 i ∧ W 47 i = V 47 i
theorem emit_w {V V1 V2 V3 V4 : Vf} {z1 z2 z3 a b c v : Int32} {S : Int} (h1 : V1 = up2 V 45 (Int32.toNatClampNeg z1) a) (h2 : V2 = up2 V1 46 (Int32.toNatClampNeg z2) b) (h3 : V3 = up2 V2 47 (Int32.toNatClampNeg z3) c) (h4 : V4 = up2 V3 0 48 v) (e1 : z1.toInt = S) (e2 : z2.toInt = S) (e3 : z3.toInt = S) : emitted V V4 S.toNat a b c := by
  have k1 : Int32.toNatClampNeg z1 = S.toNat := by rw [← e1]; rfl
  have k2 : Int32.toNatClampNeg z2 = S.toNat := by rw [← e2]; rfl
  have k3 : Int32.toNatClampNeg z3 = S.toNat := by rw [← e3]; rfl
  rw [k1] at h1
  rw [k2] at h2
  rw [k3] at h3
  refine ⟨⟨?_, ?_, ?_⟩, fun i hi => ⟨?_, ?_, ?_⟩⟩
  · exact (up2_o h4 (by decide)).trans ((up2_o h3 (by decide)).trans ((up2_o h2 (by decide)).trans (up2_s h1)))
  · exact (up2_o h4 (by decide)).trans ((up2_o h3 (by decide)).trans (up2_s h2))
  · exact (up2_o h4 (by decide)).trans (up2_s h3)
  · exact (up2_o h4 (by decide)).trans ((up2_o h3 (by decide)).trans ((up2_o h2 (by decide)).trans (up2_k h1 hi)))
  · exact (up2_o h4 (by decide)).trans ((up2_o h3 (by decide)).trans ((up2_k h2 hi).trans (up2_o h1 (by decide))))
  · exact (up2_o h4 (by decide)).trans ((up2_k h3 hi).trans ((up2_o h2 (by decide)).trans (up2_o h1 (by decide))))
theorem emitted.same {V W : Vf} {A x y : Nat} {a b c : Int32} (h : emitted V W A a b c) (hy : y ≤ A ∨ A < x) : same3 V W x y := fun i h1 h2 => h.2 i (by omega)
/-- nothing of the code has changed but from a to b -/
def sameX (V W : Vf) (a b : Nat) : Prop := ∀ i, i < a ∨ b ≤ i → W 45 i = V 45 i ∧ W 46 i = V 46 i ∧ W 47 i = V 47 i
theorem sameX.rf {V : Vf} {a b : Nat} : sameX V V a b := fun _ _ => ⟨rfl, rfl, rfl⟩
theorem sameX.tr {V W X : Vf} {a b a' : Nat} (h : sameX V W a b) (h2 : sameX W X a' b) (ha : a ≤ a') : sameX V X a b := fun i hi =>
  have q := h i hi
  have r := h2 i (by omega)
  ⟨r.1.trans q.1, r.2.1.trans q.2.1, r.2.2.trans q.2.2⟩
theorem sameX.agr {fs : List (Nat × Nat)} {cs : List Nat} {V W : Vf} {a b : Nat} (h : agr fs cs V W) (h1 : ∀ k, wrL fs cs 45 k = false) (h2 : ∀ k, wrL fs cs 46 k = false) (h3 : ∀ k, wrL fs cs 47 k = false) : sameX V W a b := fun i _ => ⟨h _ _ (h1 i), h _ _ (h2 i), h _ _ (h3 i)⟩
theorem emitted.X {V W : Vf} {A a' b' : Nat} {a b c : Int32} (h : emitted V W A a b c) (h1 : a' ≤ A) (h2 : A < b') : sameX V W a' b' := fun i hi => h.2 i (by omega)
theorem sameX.three {V W : Vf} {a b x y : Nat} (h : sameX V W a b) (hy : y ≤ a ∨ b ≤ x) : same3 V W x y := fun i h1 h2 => h i (by omega)


abbrev r_s_emit2 : Room := { frames := 0, cells := 0, slots := 0, locals := 0 }
abbrev q_s_emit2 (D : va_G) (ks : KS) (ad : Nat → Nat) (kk : Nat → ClassId) (V : Vf) (L : Lf) (p0 : Int32) (p1 : Int32) (p2 : Int32) (A : Nat → Prop) : Array Value → State → Outcome → State → Prop := va_Qi (fun (r : Int32) (u : Vf × Lf) => rgd bM u.1 ∧ agr [(0, 48)] [45, 46, 47] V u.1 ∧ u.2 = L ∧ (0 ≤ r.toInt ∧ r.toInt ≤ 20000) ∧ ((u.1 0 48).toInt = (V 0 48).toInt + 1) ∧ (r.toInt = (V 0 49).toInt + (V 0 48).toInt) ∧ (emitted V u.1 (((V 0 49).toInt + (V 0 48).toInt).toNat) p0 p1 p2)) (fun u t => gq D A (mw ad kk ks.1 u.1 u.2) (mty kk) t) A
set_option maxHeartbeats 4000000 in
set_option maxRecDepth 100000 in
theorem s_emit2 (l : Launch) (D : va_G) (ks : KS) (sz : Nat) (ad : Nat → Nat) (kk : Nat → ClassId) (V : Vf) (L : Lf) (p0 : Int32) (p1 : Int32) (p2 : Int32) (hMV : rgd bM V) (y1 : (V 0 48).toInt ≤ 9999)  : Met l yX12_emit (Cond.code yX12_emit cX12_emit 4 (some .int) :: GW) r_s_emit2 (va_Pc [.ref (ad 0), .int p0, .int p1, .int p2] (gp D ks (mw ad kk ks.1 V L) (mty kk) sz)) (q_s_emit2 D ks ad kk V L p0 p1 p2 (va_A (mw ad kk ks.1 V L) sz)) 0 0 (va_A (mw ad kk ks.1 V L) sz) := by
  refine g_met (q_s_emit2 D ks ad kk V L p0 p1 p2) (by decide) (Nat.le_of_ble_eq_true rfl) ?_
  intro p e s m below meth c A ls H locs hx hb hr hml hown hg hlocks hin hnw hgk hP hK hD hS hA hl
  have hown : s.vm.findClass RX12 = some m.cls := hown
  have hl : lv_has ls 4 [(0, .ref (ad 0)), (1, .int p0), (2, .int p1), (3, .int p2)] := hl
  have hP : va_P D vwCl (mw ad kk ks.1 V L) H := hP
  have hD : va_D A (mw ad kk ks.1 V L) := hD
  have hK : va_K D vwCl (mty kk) s := hK
  have agV : agr [(0, 48)] [45, 46, 47] V V := agr.rf
  have r1 : 0 ≤ ((V 0 48)).toInt ∧ ((V 0 48)).toInt ≤ 10000 := hMV 0 48
  refine lv_aload_n hx hb dX12_emit_0 rfl (lv_at hl 0 rfl) ?_
  refine va_get (D := D) (ci := 12) (v := .ref (ad 45)) (C := RX12) (T := TX12) (N := 100) hx hb hg inX12 hown hK hP 0 rfl rfl 45 (by decide) (hg _ w1751) (fun _ h9 => h9) rfl dX12_emit_1 ?_
  refine lv_aload_n hx hb dX12_emit_4 rfl (lv_at hl 0 rfl) ?_
  refine va_get (D := D) (ci := 12) (v := .int (V 0 49)) (C := RX12) (T := TX12) (N := 100) hx hb hg inX12 hown hK hP 0 rfl rfl 49 (by decide) (hg _ w1755) (fun _ h9 => h9) rfl dX12_emit_5 ?_
  have r2 : 0 ≤ ((V 0 49)).toInt ∧ ((V 0 49)).toInt ≤ 10000 := hMV 0 49
  refine lv_aload_n hx hb dX12_emit_8 rfl (lv_at hl 0 rfl) ?_
  refine va_get (D := D) (ci := 12) (v := .int (V 0 48)) (C := RX12) (T := TX12) (N := 100) hx hb hg inX12 hown hK hP 0 rfl rfl 48 (by decide) (hg _ w1754) (fun _ h9 => h9) rfl dX12_emit_9 ?_
  refine lv_iadd hx hb dX12_emit_12 ?_
  refine lv_topi (fun z3 ez3 => ?_)
  have hz3 : z3.toInt = ((V 0 49)).toInt + ((V 0 48)).toInt := i_add ez3 rfl rfl (by omega)
  refine lv_iload_n hx hb dX12_emit_13 rfl (lv_at hl 1 rfl) ?_
  refine va_iast (D := D) (i := z3) (x := p0) hx hb hK hP hD hS 38 37 rfl rfl (i_in (a := z3.toInt) rfl (by omega)) dX12_emit_14 (fun H locs hP hD hS => ?_)
  obtain ⟨V4, hV4⟩ : ∃ z, z = up2 V 45 (Int32.toNatClampNeg z3) p0 := ⟨_, rfl⟩
  have hP : va_P D vwCl (mw ad kk ks.1 V4 L) H := by rw [hV4]; exact hP
  have hD : va_D A (mw ad kk ks.1 V4 L) := by rw [hV4]; exact hD
  have hMV4 : rgd bM V4 := hMV.put hV4 (i_full _)
  have agV4 : agr [(0, 48)] [45, 46, 47] V V4 := agV.up hV4 rfl
  refine lv_aload_n hx hb dX12_emit_15 rfl (lv_at hl 0 rfl) ?_
  refine va_get (D := D) (ci := 12) (v := .ref (ad 46)) (C := RX12) (T := TX12) (N := 100) hx hb hg inX12 hown hK hP 0 rfl rfl 46 (by decide) (hg _ w1752) (fun _ h9 => h9) rfl dX12_emit_16 ?_
  refine lv_aload_n hx hb dX12_emit_19 rfl (lv_at hl 0 rfl) ?_
  refine va_get (D := D) (ci := 12) (v := .int (V4 0 49)) (C := RX12) (T := TX12) (N := 100) hx hb hg inX12 hown hK hP 0 rfl rfl 49 (by decide) (hg _ w1755) (fun _ h9 => h9) rfl dX12_emit_20 ?_
  refine g_top (v := (V 0 49)) (up2_o hV4 (by decide)) ?_
  refine lv_aload_n hx hb dX12_emit_23 rfl (lv_at hl 0 rfl) ?_
  refine va_get (D := D) (ci := 12) (v := .int (V4 0 48)) (C := RX12) (T := TX12) (N := 100) hx hb hg inX12 hown hK hP 0 rfl rfl 48 (by decide) (hg _ w1754) (fun _ h9 => h9) rfl dX12_emit_24 ?_
  refine g_top (v := (V 0 48)) (up2_o hV4 (by decide)) ?_
  refine lv_iadd hx hb dX12_emit_27 ?_
  refine lv_topi (fun z5 ez5 => ?_)
  have hz5 : z5.toInt = ((V 0 49)).toInt + ((V 0 48)).toInt := i_add ez5 rfl rfl (by omega)
  refine lv_iload_n hx hb dX12_emit_28 rfl (lv_at hl 2 rfl) ?_
  refine va_iast (D := D) (i := z5) (x := p1) hx hb hK hP hD hS 39 38 rfl rfl (i_in (a := z5.toInt) rfl (by omega)) dX12_emit_29 (fun H locs hP hD hS => ?_)
  obtain ⟨V6, hV6⟩ : ∃ z, z = up2 V4 46 (Int32.toNatClampNeg z5) p1 := ⟨_, rfl⟩
  have hP : va_P D vwCl (mw ad kk ks.1 V6 L) H := by rw [hV6]; exact hP
  have hD : va_D A (mw ad kk ks.1 V6 L) := by rw [hV6]; exact hD
  have hMV6 : rgd bM V6 := hMV4.put hV6 (i_full _)
  have agV6 : agr [(0, 48)] [45, 46, 47] V V6 := agV4.up hV6 rfl
  refine lv_aload_n hx hb dX12_emit_30 rfl (lv_at hl 0 rfl) ?_
  refine va_get (D := D) (ci := 12) (v := .ref (ad 47)) (C := RX12) (T := TX12) (N := 100) hx hb hg inX12 hown hK hP 0 rfl rfl 47 (by decide) (hg _ w1753) (fun _ h9 => h9) rfl dX12_emit_31 ?_
  refine lv_aload_n hx hb dX12_emit_34 rfl (lv_at hl 0 rfl) ?_
  refine va_get (D := D) (ci := 12) (v := .int (V6 0 49)) (C := RX12) (T := TX12) (N := 100) hx hb hg inX12 hown hK hP 0 rfl rfl 49 (by decide) (hg _ w1755) (fun _ h9 => h9) rfl dX12_emit_35 ?_
  refine g_top (v := (V 0 49)) ((up2_o hV6 (by decide)).trans (up2_o hV4 (by decide))) ?_
  refine lv_aload_n hx hb dX12_emit_38 rfl (lv_at hl 0 rfl) ?_
  refine va_get (D := D) (ci := 12) (v := .int (V6 0 48)) (C := RX12) (T := TX12) (N := 100) hx hb hg inX12 hown hK hP 0 rfl rfl 48 (by decide) (hg _ w1754) (fun _ h9 => h9) rfl dX12_emit_39 ?_
  refine g_top (v := (V 0 48)) ((up2_o hV6 (by decide)).trans (up2_o hV4 (by decide))) ?_
  refine lv_iadd hx hb dX12_emit_42 ?_
  refine lv_topi (fun z7 ez7 => ?_)
  have hz7 : z7.toInt = ((V 0 49)).toInt + ((V 0 48)).toInt := i_add ez7 rfl rfl (by omega)
  refine lv_iload_n hx hb dX12_emit_43 rfl (lv_at hl 3 rfl) ?_
  refine va_iast (D := D) (i := z7) (x := p2) hx hb hK hP hD hS 40 39 rfl rfl (i_in (a := z7.toInt) rfl (by omega)) dX12_emit_44 (fun H locs hP hD hS => ?_)
  obtain ⟨V8, hV8⟩ : ∃ z, z = up2 V6 47 (Int32.toNatClampNeg z7) p2 := ⟨_, rfl⟩
  have hP : va_P D vwCl (mw ad kk ks.1 V8 L) H := by rw [hV8]; exact hP
  have hD : va_D A (mw ad kk ks.1 V8 L) := by rw [hV8]; exact hD
  have hMV8 : rgd bM V8 := hMV6.put hV8 (i_full _)
  have agV8 : agr [(0, 48)] [45, 46, 47] V V8 := agV6.up hV8 rfl
  refine lv_aload_n hx hb dX12_emit_45 rfl (lv_at hl 0 rfl) ?_
  refine lv_dup hx hb dX12_emit_46 rfl ?_
  refine va_get (D := D) (ci := 12) (v := .int (V8 0 48)) (C := RX12) (T := TX12) (N := 100) hx hb hg inX12 hown hK hP 0 rfl rfl 48 (by decide) (hg _ w1754) (fun _ h9 => h9) rfl dX12_emit_47 ?_
  refine g_top (v := (V 0 48)) ((up2_o hV8 (by decide)).trans ((up2_o hV6 (by decide)).trans (up2_o hV4 (by decide)))) ?_
  refine lv_iconst (v := 1) hx hb dX12_emit_50 (by decide) ?_
  refine lv_iadd hx hb dX12_emit_51 ?_
  refine lv_topi (fun z9 ez9 => ?_)
  have hz9 : z9.toInt = ((V 0 48)).toInt + 1 := i_add ez9 rfl (by decide) (by omega)
  refine va_put (D := D) (ci := 12) (v := .int z9) (ty := tyX12 48) (C := RX12) (T := TX12) (N := 100) hx hb hg inX12 tyX12 tyX12_ok nmX12 hown hK hP hD hS 0 rfl rfl 48 (by decide) (hg _ w1754) (fun _ h9 => h9) rfl (tyX12_ok 48 (by decide)) rfl rfl (Nat.le_of_ble_eq_true rfl) dX12_emit_52 (fun H locs hP hD hS => ?_)
  obtain ⟨V10, hV10⟩ : ∃ z, z = up2 V8 0 48 z9 := ⟨_, rfl⟩
  have hP : va_P D vwCl (mw ad kk ks.1 V10 L) H := by rw [hV10]; exact hP
  have hD : va_D A (mw ad kk ks.1 V10 L) := by rw [hV10]; exact hD
  have hMV10 : rgd bM V10 := hMV8.put hV10 (show 0 ≤ z9.toInt ∧ z9.toInt ≤ 10000 from by omega)
  have agV10 : agr [(0, 48)] [45, 46, 47] V V10 := agV8.up hV10 rfl
  refine lv_aload_n hx hb dX12_emit_55 rfl (lv_at hl 0 rfl) ?_
  refine va_get (D := D) (ci := 12) (v := .int (V10 0 49)) (C := RX12) (T := TX12) (N := 100) hx hb hg inX12 hown hK hP 0 rfl rfl 49 (by decide) (hg _ w1755) (fun _ h9 => h9) rfl dX12_emit_56 ?_
  refine g_top (v := (V 0 49)) ((up2_k hV10 (by decide)).trans ((up2_o hV8 (by decide)).trans ((up2_o hV6 (by decide)).trans (up2_o hV4 (by decide))))) ?_
  refine lv_aload_n hx hb dX12_emit_59 rfl (lv_at hl 0 rfl) ?_
  refine va_get (D := D) (ci := 12) (v := .int (V10 0 48)) (C := RX12) (T := TX12) (N := 100) hx hb hg inX12 hown hK hP 0 rfl rfl 48 (by decide) (hg _ w1754) (fun _ h9 => h9) rfl dX12_emit_60 ?_
  refine g_top (v := z9) (up2_s hV10) ?_
  refine lv_iadd hx hb dX12_emit_63 ?_
  refine lv_topi (fun z11 ez11 => ?_)
  have hz11 : z11.toInt = ((V 0 49)).toInt + z9.toInt := i_add ez11 rfl rfl (by omega)
  refine lv_iconst (v := 1) hx hb dX12_emit_64 (by decide) ?_
  refine lv_isub hx hb dX12_emit_65 ?_
  refine lv_topi (fun z12 ez12 => ?_)
  have hz12 : z12.toInt = z11.toInt - 1 := i_sub ez12 rfl (by decide) (by omega)
  have pq13 : (V10 0 48).toInt = z9.toInt := congrArg Int32.toInt (up2_s hV10)
  have pq14 : (V10 0 49).toInt = ((V 0 49)).toInt := congrArg Int32.toInt ((up2_k hV10 (by decide)).trans ((up2_o hV8 (by decide)).trans ((up2_o hV6 (by decide)).trans (up2_o hV4 (by decide)))))
  exact W.iret (v := z12) hx hb hr (fun t ht hW => ⟨⟨z12, (V10, L), rfl, ⟨hMV10, agV10, rfl, (show 0 ≤ z12.toInt ∧ z12.toInt ≤ 20000 from by omega), (show (V10 0 48).toInt = (V 0 48).toInt + 1 from by omega), (show z12.toInt = (V 0 49).toInt + (V 0 48).toInt from by omega), (emit_w (S := (V 0 49).toInt + (V 0 48).toInt) hV4 hV6 hV8 hV10 (by omega) (by omega) (by omega))⟩, by rw [ht]; exact hP, va_K.moved hW.alike hK, hD⟩, hS.F ht⟩) hS.2.2 dX12_emit_66
