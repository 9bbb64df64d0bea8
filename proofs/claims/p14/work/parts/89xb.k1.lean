/-! CANDIDATES of the reference -/
def svm (V : Vf) (q n : Nat) : Nat → Int := fun i => if i < n then (V 18 (12 * q + i)).toInt else 0
def COM (V : Vf) (q : Nat) (s : St) : Prop := ∀ c, c < (s.2.1 2).length → COm V (24 * q + c) s.1 c
def CLP (f : Nat → Nat) (sv : Nat → Int) (kd t ca m k : Nat) : List Nat := (List.range k).filter (cdP f sv kd t ca m)
theorem CLP_y {f : Nat → Nat} {sv : Nat → Int} {kd t ca m k : Nat} (h : cdP f sv kd t ca m k = true) : CLP f sv kd t ca m (k + 1) = CLP f sv kd t ca m k ++ [k] := by
  unfold CLP
  rw [List.range_succ, List.filter_append, List.filter_cons_of_pos h]
  rfl
theorem CLP_n {f : Nat → Nat} {sv : Nat → Int} {kd t ca m k : Nat} (h : cdP f sv kd t ca m k = false) : CLP f sv kd t ca m (k + 1) = CLP f sv kd t ca m k := by
  unfold CLP
  rw [List.range_succ, List.filter_append, List.filter_cons_of_neg (by rw [h]; exact Bool.false_ne_true)]
  exact List.append_nil _
theorem COM.ag {V W : Vf} {q : Nat} {s : St} (h : COM V q s) (e21 : W 21 = V 21) (e22 : W 22 = V 22) (e23 : W 23 = V 23) (e24 : W 24 = V 24) (e25 : W 25 = V 25) (e26 : W 26 = V 26) (e27 : W 27 = V 27) (e28 : W 28 = V 28) (e29 : W 29 = V 29) (e30 : W 30 = V 30) (e31 : W 31 = V 31) : COM W q s := fun c hc => by
  have z := h c hc
  unfold COm HDn BTm NEm at z ⊢
  rw [e21, e22, e23, e24, e25, e26, e27, e28, e29, e30, e31]
  exact z
/-- the row of CANDIDATES is a list -/
def CLV (V : Vf) (c : Nat) (l : List Nat) (n : Int) : Prop := (l.length : Int) = n ∧ ∀ i (h : i < l.length), (V c i).toInt = ((l[i] : Nat) : Int)
theorem CLV.z {V : Vf} {c : Nat} {n : Int} {f : Nat → Nat} {sv : Nat → Int} {kd t ca m : Nat} (h : n = 0) : CLV V c (CLP f sv kd t ca m 0) n := ⟨by rw [h]; rfl, fun i q => absurd q (Nat.not_lt_zero _)⟩
theorem CLV.add {V W : Vf} {c p k : Nat} {l : List Nat} {n m : Int} {v : Int32} (h : CLV V c l n) (e : W = up2 V c p v) (hp : (p : Int) = n) (hv : v.toInt = ((k : Nat) : Int)) (hm : m = n + 1) : CLV W c (l ++ [k]) m := by
  have l1 := h.1
  refine ⟨by rw [List.length_append, hm, ← l1]; rfl, fun i hi => ?_⟩
  rw [List.length_append] at hi
  have hi2 : i < l.length + 1 := hi
  by_cases d : i < l.length
  · rw [List.getElem_append_left d, up2_k e (by omega)]
    exact h.2 i d
  · have ei : i = p := by omega
    subst ei
    rw [up2_s e, List.getElem_append_right (by omega), hv]
    exact congrArg (fun x : Nat => (x : Int)) (List.getElem_singleton _).symm
theorem cdP_no {f : Nat → Nat} {sv : Nat → Int} {kd t ca m k : Nat} (h1 : kd ≠ 2) (h2 : f (63 + 8 * k) ≠ bsP f sv t ca m) : cdP f sv kd t ca m k = false := by
  cases e : cdP f sv kd t ca m k with
  | false => rfl
  | true => exact absurd (cdP_i e).2 (fun q => q.elim h1 h2)


abbrev r_s_isThere6 : Room := { frames := 0, cells := 0, slots := 0, locals := 0 }
abbrev q_s_isThere6 (D : va_G) (ks : KS) (ad : Nat → Nat) (kk : Nat → ClassId) (V : Vf) (L : Lf) (p0 : Int32) (bq : Nat) (gs : St) (gk : Nat) (A : Nat → Prop) : Array Value → State → Outcome → State → Prop := va_Qi (fun (r : Int32) (_ : Unit) => (0 ≤ r.toInt ∧ r.toInt ≤ 1) ∧ ((r.toInt = 1 ∧ thP gs.1 (svm V bq (gs.2.1 1).length) gk = true) ∨ (r.toInt = 0 ∧ thP gs.1 (svm V bq (gs.2.1 1).length) gk = false))) (fun _ t => gq D A (mw ad kk ks.1 V L) (mty kk) t) A
set_option maxHeartbeats 4000000 in
set_option maxRecDepth 100000 in
theorem s_isThere6 (l : Launch) (D : va_G) (ks : KS) (sz : Nat) (ad : Nat → Nat) (kk : Nat → ClassId) (V : Vf) (L : Lf) (p0 : Int32) (bq : Nat) (gs : St) (gk : Nat) (hMV : rgd bM V) (rg_p0 : 0 ≤ p0.toInt ∧ p0.toInt ≤ 23) (zq1 : (bq : Int) = (V 0 11).toInt) (pk : p0.toInt = (gk : Int)) (gkl : gk < (gs.2.1 2).length) (com : COM V bq gs) (ln : (V 19 bq).toInt = (((gs.2.1 2).length : Nat) : Int)) (wh : WHs gs)  : Met l yX12_isThere (Cond.code yX12_isThere cX12_isThere 3 (some .boolean) :: GW) r_s_isThere6 (va_Pc [.ref (ad 0), .int p0] (gp D ks (mw ad kk ks.1 V L) (mty kk) sz)) (q_s_isThere6 D ks ad kk V L p0 bq gs gk (va_A (mw ad kk ks.1 V L) sz)) 0 0 (va_A (mw ad kk ks.1 V L) sz) := by
  refine g_met (q_s_isThere6 D ks ad kk V L p0 bq gs gk) (by decide) (Nat.le_of_ble_eq_true rfl) ?_
  intro p e s m below meth c A ls H locs hx hb hr hml hown hg hlocks hin hnw hgk hP hK hD hS hA hl
  have hown : s.vm.findClass RX12 = some m.cls := hown
  have hl : lv_has ls 3 [(0, .ref (ad 0)), (1, .int p0)] := hl
  have hP : va_P D vwCl (mw ad kk ks.1 V L) H := hP
  have hD : va_D A (mw ad kk ks.1 V L) := hD
  have hK : va_K D vwCl (mty kk) s := hK
  have rf_p0 := i_full p0
  have r1 : 0 ≤ ((V 0 11)).toInt ∧ ((V 0 11)).toInt ≤ 1 := hMV 0 11
  have r2 : 0 ≤ ((V 19 bq)).toInt ∧ ((V 19 bq)).toInt ≤ 24 := hMV 19 bq
  have kb9 : Int32.toNatClampNeg (V 0 11) = bq := by have h9 := i_clamp (x := V 0 11) rfl (by (first | exact om_eafa9039069c r1.1 | omega)); (first | exact om_7d9cc8d6a75e zq1 h9 | omega)
  have q19 : (V 19 (Int32.toNatClampNeg (V 0 11))).toInt = (V 19 bq).toInt := by rw [kb9]
  refine lv_bipush (v := 24) hx hb dX12_isThere_0 (by decide) ?_
  refine lv_aload_n hx hb dX12_isThere_2 rfl (lv_at hl 0 rfl) ?_
  refine va_get (D := D) (ci := 12) (v := .int (V 0 11)) (C := RX12) (T := TX12) (N := 100) hx hb hg inX12 hown hK hP 0 rfl rfl 11 (by decide) (hg _ w1717) (fun _ h9 => h9) rfl dX12_isThere_3 ?_
  refine lv_imul hx hb dX12_isThere_6 ?_
  refine lv_topi (fun z3 ez3 => ?_)
  have hz3 : z3.toInt = 24 * ((V 0 11)).toInt := i_mul ez3 (by decide) rfl (by (first | exact om_3f8aba7b6ce1 r1.1 r1.2 | omega))
  refine lv_iload_n hx hb dX12_isThere_7 rfl (lv_at hl 1 rfl) ?_
  refine lv_iadd hx hb dX12_isThere_8 ?_
  refine lv_topi (fun z4 ez4 => ?_)
  have hz4 : z4.toInt = z3.toInt + p0.toInt := i_add ez4 rfl rfl (by (first | exact om_6c84dfc0d33f rg_p0.1 rg_p0.2 r1.1 r1.2 hz3 | omega))
  refine lv_istore_n (lv' := [(2, .int z4), (0, .ref (ad 0)), (1, .int p0)]) hx hb dX12_isThere_9 rfl hl (by decide) rfl (fun ls hl => ?_)
  have wk9 := wh gk gkl
  have kz6 : Int32.toNatClampNeg z4 = 24 * bq + gk := by have h9 := i_clamp (x := z4) rfl (by (first | exact om_11587583f9f8 rg_p0.1 r1.1 hz3 hz4 | omega)); (first | exact om_6020e1579ecd zq1 pk hz3 hz4 h9 | omega)
  have c25 : (V 25 (Int32.toNatClampNeg z4)).toInt + 1 = ((gs.1 (64 + 8 * gk) : Nat) : Int) := by rw [kz6]; exact (com gk gkl).1.2.2.2.2.1
  have c26 : gs.1 (64 + 8 * gk) ≠ 0 → (V 26 (Int32.toNatClampNeg z4)).toInt = ((gs.1 (65 + 8 * gk) : Nat) : Int) := by rw [kz6]; exact (com gk gkl).1.2.2.2.2.2
  refine lv_iload_n hx hb dX12_isThere_10 rfl (lv_at hl 2 rfl) ?_
  refine lv_if_lt (tgt := 68) hx hb dX12_isThere_11 (by decide) (fun c5 => ?_) (fun c5 => ?_)
  · skip
    have f6 : p0.toInt < 0 := b_lt rfl (by decide) c5
    exfalso; (first | exact om_1b10ca75f5f0 rg_p0.1 f6 | omega)
  · skip
    have f7 : 0 ≤ p0.toInt := b_nlt rfl (by decide) c5
    refine lv_iload_n hx hb dX12_isThere_14 rfl (lv_at hl 2 rfl) ?_
    refine lv_aload_n hx hb dX12_isThere_15 rfl (lv_at hl 1 rfl) ?_
    refine va_get (D := D) (ci := 12) (v := .ref (ad 19)) (C := RX12) (T := TX12) (N := 100) hx hb hg inX12 hown hK hP 0 rfl rfl 19 (by decide) (hg _ w1725) (fun _ h9 => h9) rfl dX12_isThere_16 ?_
    refine lv_aload_n hx hb dX12_isThere_19 rfl (lv_at hl 1 rfl) ?_
    refine va_get (D := D) (ci := 12) (v := .int (V 0 11)) (C := RX12) (T := TX12) (N := 100) hx hb hg inX12 hown hK hP 0 rfl rfl 11 (by decide) (hg _ w1717) (fun _ h9 => h9) rfl dX12_isThere_20 ?_
    refine va_iald (D := D) (i := (V 0 11)) hx hb hK hP 12 11 rfl rfl (i_in (a := ((V 0 11)).toInt) rfl (by (first | exact om_8367a84723c7 r1.1 r1.2 | omega))) dX12_isThere_23 ?_
    have r8 : 0 ≤ ((V 19 (Int32.toNatClampNeg (V 0 11)))).toInt ∧ ((V 19 (Int32.toNatClampNeg (V 0 11)))).toInt ≤ 24 := hMV 19 (Int32.toNatClampNeg (V 0 11))
    refine lv_icmp_ge (tgt := 68) hx hb dX12_isThere_24 (by decide) (fun c9 => ?_) (fun c9 => ?_)
    · skip
      have f10 : ((V 19 (Int32.toNatClampNeg (V 0 11)))).toInt ≤ p0.toInt := b_le rfl rfl c9
      refine lv_iconst (v := 0) hx hb dX12_isThere_68 (by decide) ?_
      exact W.zret (v := 0) hx hb hr rfl (fun t ht hW => ⟨⟨0, (), rfl, ⟨(by decide), (by exfalso; (first | exact om_461024ef9d0d pk gkl ln q19 f10 | omega))⟩, by rw [ht]; exact hP, va_K.moved hW.alike hK, hD⟩, hS.F ht⟩) hS.2.2 dX12_isThere_69
    · skip
      have f11 : p0.toInt < ((V 19 (Int32.toNatClampNeg (V 0 11)))).toInt := b_nle rfl rfl c9
      refine lv_aload_n hx hb dX12_isThere_27 rfl (lv_at hl 1 rfl) ?_
      refine va_get (D := D) (ci := 12) (v := .ref (ad 25)) (C := RX12) (T := TX12) (N := 100) hx hb hg inX12 hown hK hP 0 rfl rfl 25 (by decide) (hg _ w1731) (fun _ h9 => h9) rfl dX12_isThere_28 ?_
      refine lv_iload_n hx hb dX12_isThere_31 rfl (lv_at hl 0 rfl) ?_
      refine va_iald (D := D) (i := z4) hx hb hK hP 18 17 rfl rfl (i_in (a := z4.toInt) rfl (by (first | exact om_cf341bf82a51 rg_p0.1 rg_p0.2 r1.1 r1.2 hz3 hz4 | omega))) dX12_isThere_32 ?_
      have r12 : (-1) ≤ ((V 25 (Int32.toNatClampNeg z4))).toInt ∧ ((V 25 (Int32.toNatClampNeg z4))).toInt ≤ 11 := hMV 25 (Int32.toNatClampNeg z4)
      refine lv_if_lt (tgt := 64) hx hb dX12_isThere_33 (by decide) (fun c13 => ?_) (fun c13 => ?_)
      · skip
        have f14 : ((V 25 (Int32.toNatClampNeg z4))).toInt < 0 := b_lt rfl (by decide) c13
        refine lv_iconst (v := 1) hx hb dX12_isThere_64 (by decide) ?_
        refine lv_goto (tgt := 69) hx hb dX12_isThere_65 (by decide) ?_
        exact W.zret (v := 1) hx hb hr rfl (fun t ht hW => ⟨⟨1, (), rfl, ⟨(by decide), (Or.inl ⟨rfl, thP_0 (by omega)⟩)⟩, by rw [ht]; exact hP, va_K.moved hW.alike hK, hD⟩, hS.F ht⟩) hS.2.2 dX12_isThere_69
      · skip
        have f15 : 0 ≤ ((V 25 (Int32.toNatClampNeg z4))).toInt := b_nlt rfl (by decide) c13
        refine lv_aload_n hx hb dX12_isThere_36 rfl (lv_at hl 1 rfl) ?_
        refine va_get (D := D) (ci := 12) (v := .ref (ad 18)) (C := RX12) (T := TX12) (N := 100) hx hb hg inX12 hown hK hP 0 rfl rfl 18 (by decide) (hg _ w1724) (fun _ h9 => h9) rfl dX12_isThere_37 ?_
        refine lv_bipush (v := 12) hx hb dX12_isThere_40 (by decide) ?_
        refine lv_aload_n hx hb dX12_isThere_42 rfl (lv_at hl 1 rfl) ?_
        refine va_get (D := D) (ci := 12) (v := .int (V 0 11)) (C := RX12) (T := TX12) (N := 100) hx hb hg inX12 hown hK hP 0 rfl rfl 11 (by decide) (hg _ w1717) (fun _ h9 => h9) rfl dX12_isThere_43 ?_
        refine lv_imul hx hb dX12_isThere_46 ?_
        refine lv_topi (fun z16 ez16 => ?_)
        have hz16 : z16.toInt = 12 * ((V 0 11)).toInt := i_mul ez16 (by decide) rfl (by (first | exact om_630bd6ee60c3 r1.1 r1.2 | omega))
        refine lv_aload_n hx hb dX12_isThere_47 rfl (lv_at hl 1 rfl) ?_
        refine va_get (D := D) (ci := 12) (v := .ref (ad 25)) (C := RX12) (T := TX12) (N := 100) hx hb hg inX12 hown hK hP 0 rfl rfl 25 (by decide) (hg _ w1731) (fun _ h9 => h9) rfl dX12_isThere_48 ?_
        refine lv_iload_n hx hb dX12_isThere_51 rfl (lv_at hl 0 rfl) ?_
        refine va_iald (D := D) (i := z4) hx hb hK hP 18 17 rfl rfl (i_in (a := z4.toInt) rfl (by (first | exact om_cf341bf82a51 rg_p0.1 rg_p0.2 r1.1 r1.2 hz3 hz4 | omega))) dX12_isThere_52 ?_
        refine lv_iadd hx hb dX12_isThere_53 ?_
        refine lv_topi (fun z17 ez17 => ?_)
        have hz17 : z17.toInt = z16.toInt + ((V 25 (Int32.toNatClampNeg z4))).toInt := i_add ez17 rfl rfl (by (first | exact om_bb6d5a6aa1c4 r1.1 r1.2 r12.2 f15 hz16 | omega))
        refine va_iald (D := D) (i := z17) hx hb hK hP 11 10 rfl rfl (i_in (a := z17.toInt) rfl (by (first | exact om_d783ef134178 r1.1 r1.2 r12.2 f15 hz16 hz17 | omega))) dX12_isThere_54 ?_
        refine lv_aload_n hx hb dX12_isThere_55 rfl (lv_at hl 1 rfl) ?_
        refine va_get (D := D) (ci := 12) (v := .ref (ad 26)) (C := RX12) (T := TX12) (N := 100) hx hb hg inX12 hown hK hP 0 rfl rfl 26 (by decide) (hg _ w1732) (fun _ h9 => h9) rfl dX12_isThere_56 ?_
        refine lv_iload_n hx hb dX12_isThere_59 rfl (lv_at hl 0 rfl) ?_
        refine va_iald (D := D) (i := z4) hx hb hK hP 19 18 rfl rfl (i_in (a := z4.toInt) rfl (by (first | exact om_cf341bf82a51 rg_p0.1 rg_p0.2 r1.1 r1.2 hz3 hz4 | omega))) dX12_isThere_60 ?_
        refine lv_icmp_ne (tgt := 68) hx hb dX12_isThere_61 (by decide) (fun c18 => ?_) (fun c18 => ?_)
        · skip
          have f19 : ((V 18 (Int32.toNatClampNeg z17))).toInt ≠ ((V 26 (Int32.toNatClampNeg z4))).toInt := b_neq rfl rfl c18
          refine lv_iconst (v := 0) hx hb dX12_isThere_68 (by decide) ?_
          have nz9 : gs.1 (64 + 8 * gk) ≠ 0 := by omega
          have ki9 : 12 * bq + (gs.1 (64 + 8 * gk) - 1) = Int32.toNatClampNeg z17 := by have h9 := i_clamp (x := z17) rfl (by (first | exact om_e9ce31f03c7e r1.1 f15 hz16 hz17 | omega)); omega
          have sv9 : svm V bq (gs.2.1 1).length (gs.1 (64 + 8 * gk) - 1) = (V 18 (Int32.toNatClampNeg z17)).toInt := by unfold svm; rw [if_pos (show gs.1 (64 + 8 * gk) - 1 < (gs.2.1 1).length from by omega), ki9]
          exact W.zret (v := 0) hx hb hr rfl (fun t ht hW => ⟨⟨0, (), rfl, ⟨(by decide), (Or.inr ⟨rfl, thP_n nz9 sv9 (c26 nz9).symm (by omega)⟩)⟩, by rw [ht]; exact hP, va_K.moved hW.alike hK, hD⟩, hS.F ht⟩) hS.2.2 dX12_isThere_69
        · skip
          have f20 : ((V 18 (Int32.toNatClampNeg z17))).toInt = ((V 26 (Int32.toNatClampNeg z4))).toInt := b_eq rfl rfl c18
          refine lv_iconst (v := 1) hx hb dX12_isThere_64 (by decide) ?_
          refine lv_goto (tgt := 69) hx hb dX12_isThere_65 (by decide) ?_
          have nz9 : gs.1 (64 + 8 * gk) ≠ 0 := by omega
          have ki9 : 12 * bq + (gs.1 (64 + 8 * gk) - 1) = Int32.toNatClampNeg z17 := by have h9 := i_clamp (x := z17) rfl (by (first | exact om_e9ce31f03c7e r1.1 f15 hz16 hz17 | omega)); omega
          have sv9 : svm V bq (gs.2.1 1).length (gs.1 (64 + 8 * gk) - 1) = (V 18 (Int32.toNatClampNeg z17)).toInt := by unfold svm; rw [if_pos (show gs.1 (64 + 8 * gk) - 1 < (gs.2.1 1).length from by omega), ki9]
          exact W.zret (v := 1) hx hb hr rfl (fun t ht hW => ⟨⟨1, (), rfl, ⟨(by decide), (Or.inl ⟨rfl, thP_y nz9 sv9 (c26 nz9).symm (by omega)⟩)⟩, by rw [ht]; exact hP, va_K.moved hW.alike hK, hD⟩, hS.F ht⟩) hS.2.2 dX12_isThere_69
abbrev r_s_suits6 : Room := { frames := 1, cells := 0, slots := 0, locals := 22 }
abbrev q_s_suits6 (D : va_G) (ks : KS) (ad : Nat → Nat) (kk : Nat → ClassId) (V : Vf) (L : Lf) (p0 : Int32) (p1 : Int32) (bq : Nat) (gs : St) (gc : Nat) (gj : Nat) (gk : Nat) (A : Nat → Prop) : Array Value → State → Outcome → State → Prop := va_Qi (fun (r : Int32) (_ : Unit) => (0 ≤ r.toInt ∧ r.toInt ≤ 1) ∧ ((r.toInt = 1 ∧ suP gs.1 (svm V bq (gs.2.1 1).length) (gs.1 (300 + 32 * gc + 4 * gj)) (gs.1 (302 + 32 * gc + 4 * gj)) gk = true) ∨ (r.toInt = 0 ∧ suP gs.1 (svm V bq (gs.2.1 1).length) (gs.1 (300 + 32 * gc + 4 * gj)) (gs.1 (302 + 32 * gc + 4 * gj)) gk = false))) (fun _ t => gq D A (mw ad kk ks.1 V L) (mty kk) t) A
set_option maxHeartbeats 4000000 in
set_option maxRecDepth 100000 in
theorem s_suits6 (l : Launch) (D : va_G) (ks : KS) (sz : Nat) (ad : Nat → Nat) (kk : Nat → ClassId) (V : Vf) (L : Lf) (p0 : Int32) (p1 : Int32) (bq : Nat) (gs : St) (gc : Nat) (gj : Nat) (gk : Nat) (hMV : rgd bM V) (rg_p0 : 0 ≤ p0.toInt ∧ p0.toInt ≤ 383) (rg_p1 : 0 ≤ p1.toInt ∧ p1.toInt ≤ 23) (zq1 : (bq : Int) = (V 0 11).toInt) (pn : p0.toInt = ((8 * (24 * bq + gc) + gj : Nat) : Int)) (gcl : gc < (gs.2.1 2).length) (gjl : gj < gs.1 (66 + 8 * gc)) (t24 : (gs.1 (300 + 32 * gc + 4 * gj)) < 24) (pk : p1.toInt = (gk : Int)) (gkl : gk < (gs.2.1 2).length) (com : COM V bq gs) (ln : (V 19 bq).toInt = (((gs.2.1 2).length : Nat) : Int)) (wh : WHs gs)  : Met l yX12_suits (Cond.code yX12_suits cX12_suits 4 (some .boolean) :: GW) r_s_suits6 (va_Pc [.ref (ad 0), .int p0, .int p1] (gp D ks (mw ad kk ks.1 V L) (mty kk) sz)) (q_s_suits6 D ks ad kk V L p0 p1 bq gs gc gj gk (va_A (mw ad kk ks.1 V L) sz)) 0 0 (va_A (mw ad kk ks.1 V L) sz) := by
  refine g_met (q_s_suits6 D ks ad kk V L p0 p1 bq gs gc gj gk) (by decide) (Nat.le_of_ble_eq_true rfl) ?_
  intro p e s m below meth c A ls H locs hx hb hr hml hown hg hlocks hin hnw hgk hP hK hD hS hA hl
  have hown : s.vm.findClass RX12 = some m.cls := hown
  have hl : lv_has ls 4 [(0, .ref (ad 0)), (1, .int p0), (2, .int p1)] := hl
  have hP : va_P D vwCl (mw ad kk ks.1 V L) H := hP
  have hD : va_D A (mw ad kk ks.1 V L) := hD
  have hK : va_K D vwCl (mty kk) s := hK
  have rf_p0 := i_full p0
  have rf_p1 := i_full p1
  have r1 : 0 ≤ ((V 0 11)).toInt ∧ ((V 0 11)).toInt ≤ 1 := hMV 0 11
  have r2 : 0 ≤ ((V 19 bq)).toInt ∧ ((V 19 bq)).toInt ≤ 24 := hMV 19 bq
  have kb9 : Int32.toNatClampNeg (V 0 11) = bq := by have h9 := i_clamp (x := V 0 11) rfl (by (first | exact om_eafa9039069c r1.1 | omega)); (first | exact om_7d9cc8d6a75e zq1 h9 | omega)
  have q19 : (V 19 (Int32.toNatClampNeg (V 0 11))).toInt = (V 19 bq).toInt := by rw [kb9]
  have kn9 : Int32.toNatClampNeg p0 = 8 * (24 * bq + gc) + gj := by have h9 := i_clamp (x := p0) rfl (by (first | exact om_182388153525 zq1 pn r1.1 | omega)); (first | exact om_36d4c83bf4b2 pn h9 | omega)
  have ne9 := (com gc gcl).2.2.2 gj gjl
  unfold NEm at ne9
  rw [← kn9] at ne9
  have n28 := ne9.1
  have n29 := ne9.2.1
  have n30 := ne9.2.2.1
  have n31 := ne9.2.2.2
  refine lv_bipush (v := 24) hx hb dX12_suits_0 (by decide) ?_
  refine lv_aload_n hx hb dX12_suits_2 rfl (lv_at hl 0 rfl) ?_
  refine va_get (D := D) (ci := 12) (v := .int (V 0 11)) (C := RX12) (T := TX12) (N := 100) hx hb hg inX12 hown hK hP 0 rfl rfl 11 (by decide) (hg _ w1717) (fun _ h9 => h9) rfl dX12_suits_3 ?_
  refine lv_imul hx hb dX12_suits_6 ?_
  refine lv_topi (fun z3 ez3 => ?_)
  have hz3 : z3.toInt = 24 * ((V 0 11)).toInt := i_mul ez3 (by decide) rfl (by (first | exact om_3f8aba7b6ce1 r1.1 r1.2 | omega))
  refine lv_iload_n hx hb dX12_suits_7 rfl (lv_at hl 2 rfl) ?_
  refine lv_iadd hx hb dX12_suits_8 ?_
  refine lv_topi (fun z4 ez4 => ?_)
  have hz4 : z4.toInt = z3.toInt + p1.toInt := i_add ez4 rfl rfl (by (first | exact om_6c84dfc0d33f rg_p1.1 rg_p1.2 r1.1 r1.2 hz3 | omega))
  refine lv_istore_n (lv' := [(3, .int z4), (0, .ref (ad 0)), (1, .int p0), (2, .int p1)]) hx hb dX12_suits_9 rfl hl (by decide) rfl (fun ls hl => ?_)
  have kz6 : Int32.toNatClampNeg z4 = 24 * bq + gk := by have h9 := i_clamp (x := z4) rfl (by (first | exact om_11587583f9f8 rg_p1.1 r1.1 hz3 hz4 | omega)); (first | exact om_6020e1579ecd zq1 pk hz3 hz4 h9 | omega)
  have c23 : (V 23 (Int32.toNatClampNeg z4)).toInt + 1 = ((gs.1 (62 + 8 * gk) : Nat) : Int) := by rw [kz6]; exact (com gk gkl).1.2.2.1
  refine lv_aload_n hx hb dX12_suits_10 rfl (lv_at hl 1 rfl) ?_
  refine lv_iload_n hx hb dX12_suits_11 rfl (lv_at hl 3 rfl) ?_
  refine gA_int (gA_runV (As := [.int p1]) (rest := []) (ci := 12) (q0 := 0) hx hb hml hown hg hP hD hK hS hA hnw hgk (s_isThere6 l D ks H.size ad kk V L p1 (bq) (gs) (gk) hMV (by (first | exact om_d3435e1acec6 rg_p1.1 rg_p1.2 | omega)) (show ((bq) : Int) = (V 0 11).toInt from by (first | exact om_639da7453e33 zq1 | omega)) (show p1.toInt = ((gk) : Int) from by (first | exact om_08e0c9701055 pk | omega)) gkl com (show (V 19 (bq)).toInt = ((((gs).2.1 2).length : Nat) : Int) from by (first | exact om_08e0c9701055 ln | omega)) wh) w2164 w2166 w117 w172 w2167 rfl rfl hdV_yX12_isThere ⟨Nat.le_of_ble_eq_true rfl, Nat.le_of_ble_eq_true rfl⟩ rfl hl.1 rfl (Nat.le_of_ble_eq_true rfl) dX12_suits_12 ⟨Nat.le_of_ble_eq_true rfl, Nat.le_of_ble_eq_true rfl⟩) hP hD hK hS hA (fun z5 u6 H locs w7 hP hD hK hS => ?_)
  obtain ⟨rgz5, t8⟩ := w7
  have rgz5 : 0 ≤ z5.toInt ∧ z5.toInt ≤ 1 := rgz5
  have t8 : (z5.toInt = 1 ∧ thP (gs).1 (svm V (bq) ((gs).2.1 1).length) (gk) = true) ∨ (z5.toInt = 0 ∧ thP (gs).1 (svm V (bq) ((gs).2.1 1).length) (gk) = false) := t8
  refine lv_if_eq (tgt := 65) hx hb dX12_suits_15 (by decide) (fun c9 => ?_) (fun c9 => ?_)
  · skip
    have f10 : z5.toInt = 0 := b_eq rfl (by decide) c9
    refine lv_iconst (v := 0) hx hb dX12_suits_65 (by decide) ?_
    exact W.zret (v := 0) hx hb hr rfl (fun t ht hW => ⟨⟨0, (), rfl, ⟨(by decide), (Or.inr ⟨rfl, suP_3 (t8.resolve_left (fun h9 => by have h8 := h9.1; omega)).2⟩)⟩, by rw [ht]; exact hP, va_K.moved hW.alike hK, hD⟩, hS.F ht⟩) hS.2.2 dX12_suits_66
  · skip
    have f11 : z5.toInt ≠ 0 := b_neq rfl (by decide) c9
    refine lv_aload_n hx hb dX12_suits_18 rfl (lv_at hl 1 rfl) ?_
    refine va_get (D := D) (ci := 12) (v := .ref (ad 21)) (C := RX12) (T := TX12) (N := 100) hx hb hg inX12 hown hK hP 0 rfl rfl 21 (by decide) (hg _ w1727) (fun _ h9 => h9) rfl dX12_suits_19 ?_
    refine lv_bipush (v := 24) hx hb dX12_suits_22 (by decide) ?_
    refine lv_iload_n hx hb dX12_suits_24 rfl (lv_at hl 0 rfl) ?_
    refine lv_imul hx hb dX12_suits_25 ?_
    refine lv_topi (fun z12 ez12 => ?_)
    have hz12 : z12.toInt = 24 * z4.toInt := i_mul ez12 (by decide) rfl (by (first | exact om_1cede0128ad6 rg_p1.1 rg_p1.2 r1.1 r1.2 hz3 hz4 | omega))
    refine lv_aload_n hx hb dX12_suits_26 rfl (lv_at hl 1 rfl) ?_
    refine va_get (D := D) (ci := 12) (v := .ref (ad 28)) (C := RX12) (T := TX12) (N := 100) hx hb hg inX12 hown hK hP 0 rfl rfl 28 (by decide) (hg _ w1734) (fun _ h9 => h9) rfl dX12_suits_27 ?_
    refine lv_iload_n hx hb dX12_suits_30 rfl (lv_at hl 2 rfl) ?_
    refine va_iald (D := D) (i := p0) hx hb hK hP 21 20 rfl rfl (i_in (a := p0.toInt) rfl (by (first | exact om_e6a7e1f184db rg_p0.2 zq1 pn r1.1 | omega))) dX12_suits_31 ?_
    have r13 : (-1) ≤ ((V 28 (Int32.toNatClampNeg p0))).toInt ∧ ((V 28 (Int32.toNatClampNeg p0))).toInt ≤ 23 := hMV 28 (Int32.toNatClampNeg p0)
    refine lv_iadd hx hb dX12_suits_32 ?_
    refine lv_topi (fun z14 ez14 => ?_)
    have hz14 : z14.toInt = z12.toInt + ((V 28 (Int32.toNatClampNeg p0))).toInt := i_add ez14 rfl rfl (by (first | exact om_d1ddbc5655c0 rg_p1.1 rg_p1.2 r1.1 r1.2 hz3 hz4 hz12 r13.1 r13.2 | omega))
    have kt6 : Int32.toNatClampNeg z14 = 24 * (24 * bq + gk) + (gs.1 (300 + 32 * gc + 4 * gj)) := by have h9 := i_clamp (x := z14) rfl (by omega); omega
    have bt6 : (V 21 (Int32.toNatClampNeg z14)).toInt = 1 ↔ (gs.1 (60 + 8 * gk)).testBit (gs.1 (300 + 32 * gc + 4 * gj)) = true := by rw [kt6]; exact (com gk gkl).1.1 (gs.1 (300 + 32 * gc + 4 * gj)) t24
    refine va_zald (D := D) (i := z14) hx hb hK hP 14 13 rfl rfl (i_in (a := z14.toInt) rfl (by omega)) dX12_suits_33 ?_
    have r15 : 0 ≤ ((V 21 (Int32.toNatClampNeg z14))).toInt ∧ ((V 21 (Int32.toNatClampNeg z14))).toInt ≤ 1 := hMV 21 (Int32.toNatClampNeg z14)
    refine lv_if_eq (tgt := 65) hx hb dX12_suits_34 (by decide) (fun c16 => ?_) (fun c16 => ?_)
    · skip
      have f17 : ((V 21 (Int32.toNatClampNeg z14))).toInt = 0 := b_eq rfl (by decide) c16
      refine lv_iconst (v := 0) hx hb dX12_suits_65 (by decide) ?_
      exact W.zret (v := 0) hx hb hr rfl (fun t ht hW => ⟨⟨0, (), rfl, ⟨(by decide), (Or.inr ⟨rfl, suP_1 (by cases e9 : (gs.1 (60 + 8 * gk)).testBit (gs.1 (300 + 32 * gc + 4 * gj)); rfl; exact absurd (bt6.mpr e9) (by omega))⟩)⟩, by rw [ht]; exact hP, va_K.moved hW.alike hK, hD⟩, hS.F ht⟩) hS.2.2 dX12_suits_66
    · skip
      have f18 : ((V 21 (Int32.toNatClampNeg z14))).toInt ≠ 0 := b_neq rfl (by decide) c16
      refine lv_aload_n hx hb dX12_suits_37 rfl (lv_at hl 1 rfl) ?_
      refine va_get (D := D) (ci := 12) (v := .ref (ad 31)) (C := RX12) (T := TX12) (N := 100) hx hb hg inX12 hown hK hP 0 rfl rfl 31 (by decide) (hg _ w1737) (fun _ h9 => h9) rfl dX12_suits_38 ?_
      refine lv_iload_n hx hb dX12_suits_41 rfl (lv_at hl 2 rfl) ?_
      refine va_iald (D := D) (i := p0) hx hb hK hP 24 23 rfl rfl (i_in (a := p0.toInt) rfl (by (first | exact om_e6a7e1f184db rg_p0.2 zq1 pn r1.1 | omega))) dX12_suits_42 ?_
      refine lv_if_lt (tgt := 61) hx hb dX12_suits_43 (by decide) (fun c19 => ?_) (fun c19 => ?_)
      · skip
        have f20 : ((V 31 (Int32.toNatClampNeg p0))).toInt < 0 := b_lt rfl (by decide) c19
        refine lv_iconst (v := 1) hx hb dX12_suits_61 (by decide) ?_
        refine lv_goto (tgt := 66) hx hb dX12_suits_62 (by decide) ?_
        exact W.zret (v := 1) hx hb hr rfl (fun t ht hW => ⟨⟨1, (), rfl, ⟨(by decide), (Or.inl ⟨rfl, suP_y (bt6.mp (by omega)) (by omega) (t8.resolve_right (fun h9 => by have h8 := h9.1; omega)).2⟩)⟩, by rw [ht]; exact hP, va_K.moved hW.alike hK, hD⟩, hS.F ht⟩) hS.2.2 dX12_suits_66
      · skip
        have f21 : 0 ≤ ((V 31 (Int32.toNatClampNeg p0))).toInt := b_nlt rfl (by decide) c19
        refine lv_aload_n hx hb dX12_suits_46 rfl (lv_at hl 1 rfl) ?_
        refine va_get (D := D) (ci := 12) (v := .ref (ad 23)) (C := RX12) (T := TX12) (N := 100) hx hb hg inX12 hown hK hP 0 rfl rfl 23 (by decide) (hg _ w1729) (fun _ h9 => h9) rfl dX12_suits_47 ?_
        refine lv_iload_n hx hb dX12_suits_50 rfl (lv_at hl 0 rfl) ?_
        refine va_iald (D := D) (i := z4) hx hb hK hP 16 15 rfl rfl (i_in (a := z4.toInt) rfl (by (first | exact om_cf341bf82a51 rg_p1.1 rg_p1.2 r1.1 r1.2 hz3 hz4 | omega))) dX12_suits_51 ?_
        refine lv_aload_n hx hb dX12_suits_52 rfl (lv_at hl 1 rfl) ?_
        refine va_get (D := D) (ci := 12) (v := .ref (ad 31)) (C := RX12) (T := TX12) (N := 100) hx hb hg inX12 hown hK hP 0 rfl rfl 31 (by decide) (hg _ w1737) (fun _ h9 => h9) rfl dX12_suits_53 ?_
        refine lv_iload_n hx hb dX12_suits_56 rfl (lv_at hl 2 rfl) ?_
        refine va_iald (D := D) (i := p0) hx hb hK hP 24 23 rfl rfl (i_in (a := p0.toInt) rfl (by (first | exact om_e6a7e1f184db rg_p0.2 zq1 pn r1.1 | omega))) dX12_suits_57 ?_
        refine lv_icmp_ne (tgt := 65) hx hb dX12_suits_58 (by decide) (fun c22 => ?_) (fun c22 => ?_)
        · skip
          have f23 : ((V 23 (Int32.toNatClampNeg z4))).toInt ≠ ((V 31 (Int32.toNatClampNeg p0))).toInt := b_neq rfl rfl c22
          refine lv_iconst (v := 0) hx hb dX12_suits_65 (by decide) ?_
          exact W.zret (v := 0) hx hb hr rfl (fun t ht hW => ⟨⟨0, (), rfl, ⟨(by decide), (Or.inr ⟨rfl, suP_2 (by omega) (by omega)⟩)⟩, by rw [ht]; exact hP, va_K.moved hW.alike hK, hD⟩, hS.F ht⟩) hS.2.2 dX12_suits_66
        · skip
          have f24 : ((V 23 (Int32.toNatClampNeg z4))).toInt = ((V 31 (Int32.toNatClampNeg p0))).toInt := b_eq rfl rfl c22
          refine lv_iconst (v := 1) hx hb dX12_suits_61 (by decide) ?_
          refine lv_goto (tgt := 66) hx hb dX12_suits_62 (by decide) ?_
          exact W.zret (v := 1) hx hb hr rfl (fun t ht hW => ⟨⟨1, (), rfl, ⟨(by decide), (Or.inl ⟨rfl, suP_y (bt6.mp (by omega)) (by omega) (t8.resolve_right (fun h9 => by have h8 := h9.1; omega)).2⟩)⟩, by rw [ht]; exact hP, va_K.moved hW.alike hK, hD⟩, hS.F ht⟩) hS.2.2 dX12_suits_66
abbrev r_s_candidatesOf6 : Room := { frames := 2, cells := 0, slots := 0, locals := 45 }
abbrev q_s_candidatesOf6 (D : va_G) (ks : KS) (ad : Nat → Nat) (kk : Nat → ClassId) (V : Vf) (L : Lf) (p0 : Int32) (bq : Nat) (gs : St) (gc : Nat) (gj : Nat) (A : Nat → Prop) : Array Value → State → Outcome → State → Prop := va_Qi (fun (r : Int32) (u : Vf × Lf) => rgd bM u.1 ∧ agr [] [80] V u.1 ∧ u.2 = L ∧ (0 ≤ r.toInt ∧ r.toInt ≤ 24) ∧ (CLV u.1 80 (CLP gs.1 (svm V bq (gs.2.1 1).length) (gs.1 (301 + 32 * gc + 4 * gj)) (gs.1 (300 + 32 * gc + 4 * gj)) (gs.1 (302 + 32 * gc + 4 * gj)) (gs.2.1 2).length (gs.2.1 2).length) r.toInt)) (fun u t => gq D A (mw ad kk ks.1 u.1 u.2) (mty kk) t) A
set_option maxHeartbeats 4000000 in
set_option maxRecDepth 100000 in
theorem s_candidatesOf6 (l : Launch) (D : va_G) (ks : KS) (sz : Nat) (ad : Nat → Nat) (kk : Nat → ClassId) (V : Vf) (L : Lf) (p0 : Int32) (bq : Nat) (gs : St) (gc : Nat) (gj : Nat) (hMV : rgd bM V) (rg_p0 : 0 ≤ p0.toInt ∧ p0.toInt ≤ 383) (zq1 : (bq : Int) = (V 0 11).toInt) (pn : p0.toInt = ((8 * (24 * bq + gc) + gj : Nat) : Int)) (gcl : gc < (gs.2.1 2).length) (gjl : gj < gs.1 (66 + 8 * gc)) (t24 : (gs.1 (300 + 32 * gc + 4 * gj)) < 24) (com : COM V bq gs) (ln : (V 19 bq).toInt = (((gs.2.1 2).length : Nat) : Int)) (wh : WHs gs)  : Met l yX12_candidatesOf (Cond.code yX12_candidatesOf cX12_candidatesOf 5 (some .int) :: GW) r_s_candidatesOf6 (va_Pc [.ref (ad 0), .int p0] (gp D ks (mw ad kk ks.1 V L) (mty kk) sz)) (q_s_candidatesOf6 D ks ad kk V L p0 bq gs gc gj (va_A (mw ad kk ks.1 V L) sz)) 0 0 (va_A (mw ad kk ks.1 V L) sz) := by
  refine g_met (q_s_candidatesOf6 D ks ad kk V L p0 bq gs gc gj) (by decide) (Nat.le_of_ble_eq_true rfl) ?_
  intro p e s m below meth c A ls H locs hx hb hr hml hown hg hlocks hin hnw hgk hP hK hD hS hA hl
  have hown : s.vm.findClass RX12 = some m.cls := hown
  have hl : lv_has ls 5 [(0, .ref (ad 0)), (1, .int p0)] := hl
  have hP : va_P D vwCl (mw ad kk ks.1 V L) H := hP
  have hD : va_D A (mw ad kk ks.1 V L) := hD
  have hK : va_K D vwCl (mty kk) s := hK
  have agV : agr [] [80] V V := agr.rf
  have rf_p0 := i_full p0
  have r1 : 0 ≤ ((V 0 11)).toInt ∧ ((V 0 11)).toInt ≤ 1 := hMV 0 11
  have r2 : 0 ≤ ((V 19 bq)).toInt ∧ ((V 19 bq)).toInt ≤ 24 := hMV 19 bq
  have kb9 : Int32.toNatClampNeg (V 0 11) = bq := by have h9 := i_clamp (x := V 0 11) rfl (by (first | exact om_eafa9039069c r1.1 | omega)); (first | exact om_7d9cc8d6a75e zq1 h9 | omega)
  have q19 : (V 19 (Int32.toNatClampNeg (V 0 11))).toInt = (V 19 bq).toInt := by rw [kb9]
  have kn9 : Int32.toNatClampNeg p0 = 8 * (24 * bq + gc) + gj := by have h9 := i_clamp (x := p0) rfl (by (first | exact om_182388153525 zq1 pn r1.1 | omega)); (first | exact om_36d4c83bf4b2 pn h9 | omega)
  have ne9 := (com gc gcl).2.2.2 gj gjl
  unfold NEm at ne9
  rw [← kn9] at ne9
  have n28 := ne9.1
  have n29 := ne9.2.1
  have n30 := ne9.2.2.1
  have n31 := ne9.2.2.2
  refine lv_iconst (v := 0) hx hb dX12_candidatesOf_0 (by decide) ?_
  refine lv_istore_n (lv' := [(2, .int 0), (0, .ref (ad 0)), (1, .int p0)]) hx hb dX12_candidatesOf_1 rfl hl (by decide) rfl (fun ls hl => ?_)
  refine lv_iconst (v := 0) hx hb dX12_candidatesOf_2 (by decide) ?_
  refine lv_istore_n (lv' := [(3, .int 0), (2, .int 0), (0, .ref (ad 0)), (1, .int p0)]) hx hb dX12_candidatesOf_3 rfl hl (by decide) rfl (fun ls hl => ?_)
  have lp5 : ∀ (fulp5 : Nat) (y3 : Int32) (y4 : Int32) (H : Heap) (locs : List Loc) (ls : Array Slot), 0 ≤ y3.toInt ∧ y3.toInt ≤ 24 → 0 ≤ y4.toInt ∧ y4.toInt ≤ 9 → (y4.toInt = ((bsP gs.1 (svm V bq (gs.2.1 1).length) (gs.1 (300 + 32 * gc + 4 * gj)) (gs.1 (302 + 32 * gc + 4 * gj)) y3.toInt.toNat : Nat) : Int)) → y3.toInt ≤ (((gs.2.1 2).length : Nat) : Int) → 24 - y3.toInt < (fulp5 : Int) → va_P D vwCl (mw ad kk ks.1 V L) H → va_D A (mw ad kk ks.1 V L) → va_S A s.heap H locs → lv_has ls 5 [(3, .int y3), (2, .int y4), (0, .ref (ad 0)), (1, .int p0)] → W p l e r_s_candidatesOf6 s m ([.ref (ad 0), .int p0] : List Value).toArray below meth c H locs 0 0 (MQ below (q_s_candidatesOf6 D ks ad kk V L p0 bq gs gc gj A) ([.ref (ad 0), .int p0] : List Value).toArray s 0 0 A) (F0 m 4 ls []) := by
    intro fulp5
    induction fulp5 with
    | zero =>
      intro y3 y4 H locs ls klp5_0 klp5_1 xlp5_0 xlp5_1 hn  hP hD hS hl
      exfalso; (first | exact om_9386ef0df612 klp5_0.2 hn | omega)
    | succ fulp5 ihlp5 =>
      intro y3 y4 H locs ls klp5_0 klp5_1 xlp5_0 xlp5_1 hn  hP hD hS hl
      refine lv_iload_n hx hb dX12_candidatesOf_4 rfl (lv_at hl 0 rfl) ?_
      refine lv_aload_n hx hb dX12_candidatesOf_5 rfl (lv_at hl 2 rfl) ?_
      refine va_get (D := D) (ci := 12) (v := .ref (ad 19)) (C := RX12) (T := TX12) (N := 100) hx hb hg inX12 hown hK hP 0 rfl rfl 19 (by decide) (hg _ w1725) (fun _ h9 => h9) rfl dX12_candidatesOf_6 ?_
      refine lv_aload_n hx hb dX12_candidatesOf_9 rfl (lv_at hl 2 rfl) ?_
      refine va_get (D := D) (ci := 12) (v := .int (V 0 11)) (C := RX12) (T := TX12) (N := 100) hx hb hg inX12 hown hK hP 0 rfl rfl 11 (by decide) (hg _ w1717) (fun _ h9 => h9) rfl dX12_candidatesOf_10 ?_
      refine va_iald (D := D) (i := (V 0 11)) hx hb hK hP 12 11 rfl rfl (i_in (a := ((V 0 11)).toInt) rfl (by (first | exact om_8367a84723c7 r1.1 r1.2 | omega))) dX12_candidatesOf_13 ?_
      have r6 : 0 ≤ ((V 19 (Int32.toNatClampNeg (V 0 11)))).toInt ∧ ((V 19 (Int32.toNatClampNeg (V 0 11)))).toInt ≤ 24 := hMV 19 (Int32.toNatClampNeg (V 0 11))
      refine lv_icmp_ge (tgt := 69) hx hb dX12_candidatesOf_14 (by decide) (fun c7 => ?_) (fun c7 => ?_)
      · skip
        have f8 : ((V 19 (Int32.toNatClampNeg (V 0 11)))).toInt ≤ y3.toInt := b_le rfl rfl c7
        have bb9 : y4.toInt = ((bsP gs.1 (svm V bq (gs.2.1 1).length) (gs.1 (300 + 32 * gc + 4 * gj)) (gs.1 (302 + 32 * gc + 4 * gj)) (gs.2.1 2).length : Nat) : Int) := by have h9 := xlp5_0; rw [show y3.toInt.toNat = (gs.2.1 2).length from by omega] at h9; exact h9
        refine lv_iconst (v := 0) hx hb dX12_candidatesOf_69 (by decide) ?_
        refine lv_istore_n (lv' := [(3, .int 0), (2, .int y4), (0, .ref (ad 0)), (1, .int p0)]) hx hb dX12_candidatesOf_70 rfl hl (by decide) rfl (fun ls hl => ?_)
        refine lv_iconst (v := 0) hx hb dX12_candidatesOf_71 (by decide) ?_
        refine lv_istore (lv' := [(4, .int 0), (3, .int 0), (2, .int y4), (0, .ref (ad 0)), (1, .int p0)]) hx hb dX12_candidatesOf_72 hl (by decide) rfl (fun ls hl => ?_)
        have lp13 : ∀ (fulp13 : Nat) (y10 : Int32) (y11 : Int32) (V12 : Vf) (H : Heap) (locs : List Loc) (ls : Array Slot), 0 ≤ y10.toInt ∧ y10.toInt ≤ 24 → 0 ≤ y11.toInt ∧ y11.toInt ≤ 24 → (CLV V12 80 (CLP gs.1 (svm V bq (gs.2.1 1).length) (gs.1 (301 + 32 * gc + 4 * gj)) (gs.1 (300 + 32 * gc + 4 * gj)) (gs.1 (302 + 32 * gc + 4 * gj)) (gs.2.1 2).length y10.toInt.toNat) y11.toInt) → y10.toInt ≤ (((gs.2.1 2).length : Nat) : Int) → y11.toInt ≤ y10.toInt → 24 - y10.toInt < (fulp13 : Int) → agr [] [80] V V12 → rgd bM V12 → va_P D vwCl (mw ad kk ks.1 V12 L) H → va_D A (mw ad kk ks.1 V12 L) → va_S A s.heap H locs → lv_has ls 5 [(4, .int y10), (3, .int y11), (2, .int y4), (0, .ref (ad 0)), (1, .int p0)] → W p l e r_s_candidatesOf6 s m ([.ref (ad 0), .int p0] : List Value).toArray below meth c H locs 0 0 (MQ below (q_s_candidatesOf6 D ks ad kk V L p0 bq gs gc gj A) ([.ref (ad 0), .int p0] : List Value).toArray s 0 0 A) (F0 m 74 ls []) := by
          intro fulp13
          induction fulp13 with
          | zero =>
            intro y10 y11 V12 H locs ls klp13_0 klp13_1 xlp13_0 xlp13_1 xlp13_2 hn ajV12 hMV12 hP hD hS hl
            exfalso; (first | exact om_9386ef0df612 klp13_0.2 hn | omega)
          | succ fulp13 ihlp13 =>
            intro y10 y11 V12 H locs ls klp13_0 klp13_1 xlp13_0 xlp13_1 xlp13_2 hn ajV12 hMV12 hP hD hS hl
            have agV12 : agr [] [80] V V12 := agV.tr ajV12 (by decide) (by decide)
            refine lv_iload hx hb dX12_candidatesOf_74 (lv_at hl 0 rfl) ?_
            refine lv_aload_n hx hb dX12_candidatesOf_76 rfl (lv_at hl 3 rfl) ?_
            refine va_get (D := D) (ci := 12) (v := .ref (ad 19)) (C := RX12) (T := TX12) (N := 100) hx hb hg inX12 hown hK hP 0 rfl rfl 19 (by decide) (hg _ w1725) (fun _ h9 => h9) rfl dX12_candidatesOf_77 ?_
            refine lv_aload_n hx hb dX12_candidatesOf_80 rfl (lv_at hl 3 rfl) ?_
            refine va_get (D := D) (ci := 12) (v := .int (V12 0 11)) (C := RX12) (T := TX12) (N := 100) hx hb hg inX12 hown hK hP 0 rfl rfl 11 (by decide) (hg _ w1717) (fun _ h9 => h9) rfl dX12_candidatesOf_81 ?_
            refine g_top (v := (V 0 11)) (ajV12 0 11 rfl) ?_
            refine va_iald (D := D) (i := (V 0 11)) hx hb hK hP 12 11 rfl rfl (i_in (a := ((V 0 11)).toInt) rfl (by (first | exact om_8367a84723c7 r1.1 r1.2 | omega))) dX12_candidatesOf_84 ?_
            refine g_top (v := (V 19 (Int32.toNatClampNeg (V 0 11)))) (ajV12 19 (Int32.toNatClampNeg (V 0 11)) rfl) ?_
            refine lv_icmp_ge (tgt := 143) hx hb dX12_candidatesOf_85 (by decide) (fun c14 => ?_) (fun c14 => ?_)
            · skip
              have f15 : ((V 19 (Int32.toNatClampNeg (V 0 11)))).toInt ≤ y10.toInt := b_le rfl rfl c14
              refine lv_iload_n hx hb dX12_candidatesOf_143 rfl (lv_at hl 1 rfl) ?_
              exact W.iret (v := y11) hx hb hr (fun t ht hW => ⟨⟨y11, (V12, L), rfl, ⟨hMV12, agV12, rfl, (show 0 ≤ y11.toInt ∧ y11.toInt ≤ 24 from by (first | exact om_dc10c6d48ea2 ln q19 r6.2 klp13_1.1 xlp13_1 xlp13_2 | omega)), (by have h9 := xlp13_0; rw [show y10.toInt.toNat = (gs.2.1 2).length from by omega] at h9; exact h9)⟩, by rw [ht]; exact hP, va_K.moved hW.alike hK, hD⟩, hS.F ht⟩) hS.2.2 dX12_candidatesOf_144
            · skip
              have f16 : y10.toInt < ((V 19 (Int32.toNatClampNeg (V 0 11)))).toInt := b_nle rfl rfl c14
              have kk17 := i_clamp (x := y10) rfl (by (first | exact om_eafa9039069c klp13_0.1 | omega))
              have cm6 : COM V12 bq gs := COM.ag com (by rw [(funext (fun q => ajV12 21 q rfl) : V12 21 = V 21)] : V12 21 = V 21) (by rw [(funext (fun q => ajV12 22 q rfl) : V12 22 = V 22)] : V12 22 = V 22) (by rw [(funext (fun q => ajV12 23 q rfl) : V12 23 = V 23)] : V12 23 = V 23) (by rw [(funext (fun q => ajV12 24 q rfl) : V12 24 = V 24)] : V12 24 = V 24) (by rw [(funext (fun q => ajV12 25 q rfl) : V12 25 = V 25)] : V12 25 = V 25) (by rw [(funext (fun q => ajV12 26 q rfl) : V12 26 = V 26)] : V12 26 = V 26) (by rw [(funext (fun q => ajV12 27 q rfl) : V12 27 = V 27)] : V12 27 = V 27) (by rw [(funext (fun q => ajV12 28 q rfl) : V12 28 = V 28)] : V12 28 = V 28) (by rw [(funext (fun q => ajV12 29 q rfl) : V12 29 = V 29)] : V12 29 = V 29) (by rw [(funext (fun q => ajV12 30 q rfl) : V12 30 = V 30)] : V12 30 = V 30) (by rw [(funext (fun q => ajV12 31 q rfl) : V12 31 = V 31)] : V12 31 = V 31)
              have sv6 : svm V12 bq (gs.2.1 1).length = svm V bq (gs.2.1 1).length := by unfold svm; rw [(by rw [(funext (fun q => ajV12 18 q rfl) : V12 18 = V 18)] : V12 18 = V 18)]
              refine lv_aload_n hx hb dX12_candidatesOf_88 rfl (lv_at hl 3 rfl) ?_
              refine lv_iload_n hx hb dX12_candidatesOf_89 rfl (lv_at hl 4 rfl) ?_
              refine lv_iload hx hb dX12_candidatesOf_90 (lv_at hl 0 rfl) ?_
              have pq18 : (V12 0 11).toInt = ((V 0 11)).toInt := congrArg Int32.toInt (ajV12 0 11 rfl)
              have pq19 : (V12 19 bq).toInt = ((V 19 bq)).toInt := congrArg Int32.toInt (ajV12 19 bq rfl)
              refine gA_int (gA_runV (As := [.int p0, .int y10]) (rest := []) (ci := 12) (q0 := 0) hx hb hml hown hg hP hD hK hS hA hnw hgk (s_suits6 l D ks H.size ad kk V12 L p0 y10 (bq) (gs) (gc) (gj) ((Int32.toNatClampNeg y10)) hMV12 (by (first | exact om_e937935e9c51 rg_p0.1 rg_p0.2 | omega)) (by (first | exact om_b82ab6f2f50e r2.2 q19 klp13_0.1 f16 | omega)) (show ((bq) : Int) = (V12 0 11).toInt from by (first | exact om_9495d81bd5ca zq1 pq18 | omega)) (show p0.toInt = ((8 * (24 * (bq) + (gc)) + (gj) : Nat) : Int) from by (first | exact om_5c6f91e56a35 pn | omega)) gcl gjl t24 (show y10.toInt = (((Int32.toNatClampNeg y10)) : Int) from by (first | exact om_dadc9969542e kk17 | omega)) (show (Int32.toNatClampNeg y10) < (gs.2.1 2).length from by (first | exact om_2278541b5b9f ln q19 f16 kk17 | omega)) cm6 (show (V12 19 (bq)).toInt = ((((gs).2.1 2).length : Nat) : Int) from by (first | exact om_adf531c77a0d ln pq19 | omega)) wh) w2176 w2178 w120 w172 w2179 rfl rfl hdV_yX12_suits ⟨Nat.le_of_ble_eq_true rfl, Nat.le_of_ble_eq_true rfl⟩ rfl hl.1 rfl (Nat.le_of_ble_eq_true rfl) dX12_candidatesOf_92 ⟨Nat.le_of_ble_eq_true rfl, Nat.le_of_ble_eq_true rfl⟩) hP hD hK hS hA (fun z20 u21 H locs w22 hP hD hK hS => ?_)
              obtain ⟨rgz20, t23⟩ := w22
              have rgz20 : 0 ≤ z20.toInt ∧ z20.toInt ≤ 1 := rgz20
              have t23 : (z20.toInt = 1 ∧ suP (gs).1 (svm V12 (bq) ((gs).2.1 1).length) ((gs).1 (300 + 32 * (gc) + 4 * (gj))) ((gs).1 (302 + 32 * (gc) + 4 * (gj))) ((Int32.toNatClampNeg y10)) = true) ∨ (z20.toInt = 0 ∧ suP (gs).1 (svm V12 (bq) ((gs).2.1 1).length) ((gs).1 (300 + 32 * (gc) + 4 * (gj))) ((gs).1 (302 + 32 * (gc) + 4 * (gj))) ((Int32.toNatClampNeg y10)) = false) := t23
              refine lv_if_eq (tgt := 137) hx hb dX12_candidatesOf_95 (by decide) (fun c24 => ?_) (fun c24 => ?_)
              · skip
                have f25 : z20.toInt = 0 := b_eq rfl (by decide) c24
                obtain ⟨z26, ez26⟩ : ∃ y : Int32, y = y10 + 1 := ⟨_, rfl⟩
                have hz26 : z26.toInt = y10.toInt + 1 := i_add ez26 rfl (by decide) (by (first | exact om_cba3b1702db7 r2.2 q19 klp13_0.1 f16 | omega))
                refine lv_iinc (v := z26) (lv' := [(4, .int z26), (3, .int y11), (2, .int y4), (0, .ref (ad 0)), (1, .int p0)]) hx hb dX12_candidatesOf_137 hl (k := 0) rfl (by rw [ez26]; rfl) (by decide) rfl (fun ls hl => ?_)
                refine lv_goto (tgt := 74) hx hb dX12_candidatesOf_140 (by decide) ?_
                have su27 : suP gs.1 (svm V bq (gs.2.1 1).length) (gs.1 (300 + 32 * gc + 4 * gj)) (gs.1 (302 + 32 * gc + 4 * gj)) (Int32.toNatClampNeg y10) = false := (by have h9 := (t23.resolve_left (fun h9 => by have h8 := h9.1; omega)).2; rw [sv6] at h9; exact h9)
                have em9 : z26.toInt.toNat = (Int32.toNatClampNeg y10) + 1 := by (first | exact om_e74b57b43c73 klp13_0.1 kk17 hz26 | omega)
                have l9 := xlp13_0
                rw [show y10.toInt.toNat = (Int32.toNatClampNeg y10) from rfl] at l9
                have b9 : y4.toInt = ((bsP gs.1 (svm V bq (gs.2.1 1).length) (gs.1 (300 + 32 * gc + 4 * gj)) (gs.1 (302 + 32 * gc + 4 * gj)) (gs.2.1 2).length : Nat) : Int) := bb9
                exact ihlp13 z26 y11 V12 H locs ls (by (first | exact om_03bbbfa61cad r2.2 q19 klp13_0.1 f16 hz26 | omega)) (by (first | exact om_7e2c0121d284 r2.2 q19 klp13_1.1 xlp13_2 f16 | omega)) (by rw [em9, CLP_n (cdP_n su27)]; exact l9) (show z26.toInt ≤ (((gs.2.1 2).length : Nat) : Int) from by (first | exact om_139e70ed6b2e ln q19 f16 hz26 | omega)) (show y11.toInt ≤ z26.toInt from by (first | exact om_f75a30b4c815 xlp13_2 hz26 | omega)) (by (first | exact om_9592d9319ffa hn hz26 | omega)) (agr.tr agr.rf ajV12 (by decide) (by decide)) hMV12 hP hD hS (lv_sub hl [0, 1, 2, 3, 4] rfl)
              · skip
                have f28 : z20.toInt ≠ 0 := b_neq rfl (by decide) c24
                refine lv_aload_n hx hb dX12_candidatesOf_98 rfl (lv_at hl 3 rfl) ?_
                refine va_get (D := D) (ci := 12) (v := .ref (ad 30)) (C := RX12) (T := TX12) (N := 100) hx hb hg inX12 hown hK hP 0 rfl rfl 30 (by decide) (hg _ w1736) (fun _ h9 => h9) rfl dX12_candidatesOf_99 ?_
                refine lv_iload_n hx hb dX12_candidatesOf_102 rfl (lv_at hl 4 rfl) ?_
                refine va_zald (D := D) (i := p0) hx hb hK hP 23 22 rfl rfl (i_in (a := p0.toInt) rfl (by (first | exact om_49d8f2f70e9a rg_p0.1 rg_p0.2 | omega))) dX12_candidatesOf_103 ?_
                refine g_top (v := (V 30 (Int32.toNatClampNeg p0))) (ajV12 30 (Int32.toNatClampNeg p0) rfl) ?_
                have r29 : 0 ≤ ((V 30 (Int32.toNatClampNeg p0))).toInt ∧ ((V 30 (Int32.toNatClampNeg p0))).toInt ≤ 1 := hMV 30 (Int32.toNatClampNeg p0)
                refine lv_if_ne (tgt := 126) hx hb dX12_candidatesOf_104 (by decide) (fun c30 => ?_) (fun c30 => ?_)
                · skip
                  have f31 : ((V 30 (Int32.toNatClampNeg p0))).toInt ≠ 0 := b_neq rfl (by decide) c30
                  refine lv_aload_n hx hb dX12_candidatesOf_126 rfl (lv_at hl 3 rfl) ?_
                  refine va_get (D := D) (ci := 12) (v := .ref (ad 80)) (C := RX12) (T := TX12) (N := 100) hx hb hg inX12 hown hK hP 0 rfl rfl 80 (by decide) (hg _ w1786) (fun _ h9 => h9) rfl dX12_candidatesOf_127 ?_
                  refine lv_iload_n hx hb dX12_candidatesOf_130 rfl (lv_at hl 1 rfl) ?_
                  refine lv_iload hx hb dX12_candidatesOf_131 (lv_at hl 0 rfl) ?_
                  refine va_iast (D := D) (i := y11) (x := y10) hx hb hK hP hD hS 57 56 rfl rfl (i_in (a := y11.toInt) rfl (by (first | exact om_97cd09ff96d9 r2.2 q19 klp13_1.1 xlp13_2 f16 | omega))) dX12_candidatesOf_133 (fun H locs hP hD hS => ?_)
                  obtain ⟨V32, hV32⟩ : ∃ z, z = up2 V12 80 (Int32.toNatClampNeg y11) y10 := ⟨_, rfl⟩
                  have hP : va_P D vwCl (mw ad kk ks.1 V32 L) H := by rw [hV32]; exact hP
                  have hD : va_D A (mw ad kk ks.1 V32 L) := by rw [hV32]; exact hD
                  have hMV32 : rgd bM V32 := hMV12.put hV32 (show 0 ≤ y10.toInt ∧ y10.toInt ≤ 23 from by (first | exact om_b82ab6f2f50e r2.2 q19 klp13_0.1 f16 | omega))
                  have agV32 : agr [] [80] V V32 := agV12.up hV32 rfl
                  obtain ⟨z33, ez33⟩ : ∃ y : Int32, y = y11 + 1 := ⟨_, rfl⟩
                  have hz33 : z33.toInt = y11.toInt + 1 := i_add ez33 rfl (by decide) (by (first | exact om_42a03d5ac0bb r2.2 q19 klp13_1.1 xlp13_2 f16 | omega))
                  refine lv_iinc (v := z33) (lv' := [(3, .int z33), (4, .int y10), (2, .int y4), (0, .ref (ad 0)), (1, .int p0)]) hx hb dX12_candidatesOf_134 hl (k := 1) rfl (by rw [ez33]; rfl) (by decide) rfl (fun ls hl => ?_)
                  obtain ⟨z34, ez34⟩ : ∃ y : Int32, y = y10 + 1 := ⟨_, rfl⟩
                  have hz34 : z34.toInt = y10.toInt + 1 := i_add ez34 rfl (by decide) (by (first | exact om_cba3b1702db7 r2.2 q19 klp13_0.1 f16 | omega))
                  refine lv_iinc (v := z34) (lv' := [(4, .int z34), (3, .int z33), (2, .int y4), (0, .ref (ad 0)), (1, .int p0)]) hx hb dX12_candidatesOf_137 hl (k := 1) rfl (by rw [ez34]; rfl) (by decide) rfl (fun ls hl => ?_)
                  refine lv_goto (tgt := 74) hx hb dX12_candidatesOf_140 (by decide) ?_
                  have su35 : suP gs.1 (svm V bq (gs.2.1 1).length) (gs.1 (300 + 32 * gc + 4 * gj)) (gs.1 (302 + 32 * gc + 4 * gj)) (Int32.toNatClampNeg y10) = true := (by have h9 := (t23.resolve_right (fun h9 => by have h8 := h9.1; omega)).2; rw [sv6] at h9; exact h9)
                  have em9 : z34.toInt.toNat = (Int32.toNatClampNeg y10) + 1 := by (first | exact om_e74b57b43c73 klp13_0.1 kk17 hz34 | omega)
                  have l9 := xlp13_0
                  rw [show y10.toInt.toNat = (Int32.toNatClampNeg y10) from rfl] at l9
                  have b9 : y4.toInt = ((bsP gs.1 (svm V bq (gs.2.1 1).length) (gs.1 (300 + 32 * gc + 4 * gj)) (gs.1 (302 + 32 * gc + 4 * gj)) (gs.2.1 2).length : Nat) : Int) := bb9
                  exact ihlp13 z34 z33 V32 H locs ls (by (first | exact om_03bbbfa61cad r2.2 q19 klp13_0.1 f16 hz34 | omega)) (by (first | exact om_fd7621cf2ee5 r2.2 q19 klp13_1.1 xlp13_2 f16 hz33 | omega)) (by rw [em9, CLP_y (cdP_y su35 (Or.inl (n30.mp (by omega))))]; exact CLV.add l9 hV32 (by have h9 := i_clamp (x := y11) rfl (by (first | exact om_eafa9039069c klp13_1.1 | omega)); omega) (by omega) (by omega)) (show z34.toInt ≤ (((gs.2.1 2).length : Nat) : Int) from by (first | exact om_139e70ed6b2e ln q19 f16 hz34 | omega)) (show z33.toInt ≤ z34.toInt from by (first | exact om_953ed16b636a xlp13_2 hz33 hz34 | omega)) (by (first | exact om_9592d9319ffa hn hz34 | omega)) (agr.up (agr.tr agr.rf ajV12 (by decide) (by decide)) hV32 rfl) hMV32 hP hD hS (lv_sub hl [0, 1, 2, 3, 4] rfl)
                · skip
                  have f36 : ((V 30 (Int32.toNatClampNeg p0))).toInt = 0 := b_eq rfl (by decide) c30
                  refine lv_aload_n hx hb dX12_candidatesOf_107 rfl (lv_at hl 3 rfl) ?_
                  refine va_get (D := D) (ci := 12) (v := .ref (ad 24)) (C := RX12) (T := TX12) (N := 100) hx hb hg inX12 hown hK hP 0 rfl rfl 24 (by decide) (hg _ w1730) (fun _ h9 => h9) rfl dX12_candidatesOf_108 ?_
                  refine lv_bipush (v := 24) hx hb dX12_candidatesOf_111 (by decide) ?_
                  refine lv_aload_n hx hb dX12_candidatesOf_113 rfl (lv_at hl 3 rfl) ?_
                  refine va_get (D := D) (ci := 12) (v := .int (V12 0 11)) (C := RX12) (T := TX12) (N := 100) hx hb hg inX12 hown hK hP 0 rfl rfl 11 (by decide) (hg _ w1717) (fun _ h9 => h9) rfl dX12_candidatesOf_114 ?_
                  refine g_top (v := (V 0 11)) (ajV12 0 11 rfl) ?_
                  refine lv_imul hx hb dX12_candidatesOf_117 ?_
                  refine lv_topi (fun z37 ez37 => ?_)
                  have hz37 : z37.toInt = 24 * ((V 0 11)).toInt := i_mul ez37 (by decide) rfl (by (first | exact om_3f8aba7b6ce1 r1.1 r1.2 | omega))
                  refine lv_iload hx hb dX12_candidatesOf_118 (lv_at hl 0 rfl) ?_
                  refine lv_iadd hx hb dX12_candidatesOf_120 ?_
                  refine lv_topi (fun z38 ez38 => ?_)
                  have hz38 : z38.toInt = z37.toInt + y10.toInt := i_add ez38 rfl rfl (by (first | exact om_05b2ab89c241 r1.1 r1.2 r2.2 q19 klp13_0.1 f16 hz37 | omega))
                  have kr6 : Int32.toNatClampNeg z38 = 24 * bq + (Int32.toNatClampNeg y10) := by have h9 := i_clamp (x := z38) rfl (by (first | exact om_19aed6992cbe r1.1 klp13_0.1 hz37 hz38 | omega)); (first | exact om_4c29053cab98 zq1 kk17 hz37 hz38 h9 | omega)
                  have r24 : (V 24 (Int32.toNatClampNeg z38)).toInt = ((gs.1 (63 + 8 * (Int32.toNatClampNeg y10)) : Nat) : Int) := by rw [kr6]; exact (com (Int32.toNatClampNeg y10) (by omega)).1.2.2.2.1
                  refine va_iald (D := D) (i := z38) hx hb hK hP 17 16 rfl rfl (i_in (a := z38.toInt) rfl (by (first | exact om_8dcc3627f11a r1.1 r1.2 r2.2 q19 klp13_0.1 f16 hz37 hz38 | omega))) dX12_candidatesOf_121 ?_
                  refine g_top (v := (V 24 (Int32.toNatClampNeg z38))) (ajV12 24 (Int32.toNatClampNeg z38) rfl) ?_
                  have r39 : 0 ≤ ((V 24 (Int32.toNatClampNeg z38))).toInt ∧ ((V 24 (Int32.toNatClampNeg z38))).toInt ≤ 9 := hMV 24 (Int32.toNatClampNeg z38)
                  refine lv_iload_n hx hb dX12_candidatesOf_122 rfl (lv_at hl 2 rfl) ?_
                  refine lv_icmp_ne (tgt := 137) hx hb dX12_candidatesOf_123 (by decide) (fun c40 => ?_) (fun c40 => ?_)
                  · skip
                    have f41 : ((V 24 (Int32.toNatClampNeg z38))).toInt ≠ y4.toInt := b_neq rfl rfl c40
                    obtain ⟨z42, ez42⟩ : ∃ y : Int32, y = y10 + 1 := ⟨_, rfl⟩
                    have hz42 : z42.toInt = y10.toInt + 1 := i_add ez42 rfl (by decide) (by (first | exact om_cba3b1702db7 r2.2 q19 klp13_0.1 f16 | omega))
                    refine lv_iinc (v := z42) (lv' := [(4, .int z42), (3, .int y11), (2, .int y4), (0, .ref (ad 0)), (1, .int p0)]) hx hb dX12_candidatesOf_137 hl (k := 0) rfl (by rw [ez42]; rfl) (by decide) rfl (fun ls hl => ?_)
                    refine lv_goto (tgt := 74) hx hb dX12_candidatesOf_140 (by decide) ?_
                    have su43 : suP gs.1 (svm V bq (gs.2.1 1).length) (gs.1 (300 + 32 * gc + 4 * gj)) (gs.1 (302 + 32 * gc + 4 * gj)) (Int32.toNatClampNeg y10) = true := (by have h9 := (t23.resolve_right (fun h9 => by have h8 := h9.1; omega)).2; rw [sv6] at h9; exact h9)
                    have em9 : z42.toInt.toNat = (Int32.toNatClampNeg y10) + 1 := by (first | exact om_e74b57b43c73 klp13_0.1 kk17 hz42 | omega)
                    have l9 := xlp13_0
                    rw [show y10.toInt.toNat = (Int32.toNatClampNeg y10) from rfl] at l9
                    have b9 : y4.toInt = ((bsP gs.1 (svm V bq (gs.2.1 1).length) (gs.1 (300 + 32 * gc + 4 * gj)) (gs.1 (302 + 32 * gc + 4 * gj)) (gs.2.1 2).length : Nat) : Int) := bb9
                    exact ihlp13 z42 y11 V12 H locs ls (by (first | exact om_03bbbfa61cad r2.2 q19 klp13_0.1 f16 hz42 | omega)) (by (first | exact om_7e2c0121d284 r2.2 q19 klp13_1.1 xlp13_2 f16 | omega)) (by rw [em9, CLP_n (cdP_no (fun h9 => absurd (n30.mpr h9) (by omega)) (by omega))]; exact l9) (show z42.toInt ≤ (((gs.2.1 2).length : Nat) : Int) from by (first | exact om_139e70ed6b2e ln q19 f16 hz42 | omega)) (show y11.toInt ≤ z42.toInt from by (first | exact om_f75a30b4c815 xlp13_2 hz42 | omega)) (by (first | exact om_9592d9319ffa hn hz42 | omega)) (agr.tr agr.rf ajV12 (by decide) (by decide)) hMV12 hP hD hS (lv_sub hl [0, 1, 2, 3, 4] rfl)
                  · skip
                    have f44 : ((V 24 (Int32.toNatClampNeg z38))).toInt = y4.toInt := b_eq rfl rfl c40
                    refine lv_aload_n hx hb dX12_candidatesOf_126 rfl (lv_at hl 3 rfl) ?_
                    refine va_get (D := D) (ci := 12) (v := .ref (ad 80)) (C := RX12) (T := TX12) (N := 100) hx hb hg inX12 hown hK hP 0 rfl rfl 80 (by decide) (hg _ w1786) (fun _ h9 => h9) rfl dX12_candidatesOf_127 ?_
                    refine lv_iload_n hx hb dX12_candidatesOf_130 rfl (lv_at hl 1 rfl) ?_
                    refine lv_iload hx hb dX12_candidatesOf_131 (lv_at hl 0 rfl) ?_
                    refine va_iast (D := D) (i := y11) (x := y10) hx hb hK hP hD hS 57 56 rfl rfl (i_in (a := y11.toInt) rfl (by (first | exact om_97cd09ff96d9 r2.2 q19 klp13_1.1 xlp13_2 f16 | omega))) dX12_candidatesOf_133 (fun H locs hP hD hS => ?_)
                    obtain ⟨V45, hV45⟩ : ∃ z, z = up2 V12 80 (Int32.toNatClampNeg y11) y10 := ⟨_, rfl⟩
                    have hP : va_P D vwCl (mw ad kk ks.1 V45 L) H := by rw [hV45]; exact hP
                    have hD : va_D A (mw ad kk ks.1 V45 L) := by rw [hV45]; exact hD
                    have hMV45 : rgd bM V45 := hMV12.put hV45 (show 0 ≤ y10.toInt ∧ y10.toInt ≤ 23 from by (first | exact om_b82ab6f2f50e r2.2 q19 klp13_0.1 f16 | omega))
                    have agV45 : agr [] [80] V V45 := agV12.up hV45 rfl
                    obtain ⟨z46, ez46⟩ : ∃ y : Int32, y = y11 + 1 := ⟨_, rfl⟩
                    have hz46 : z46.toInt = y11.toInt + 1 := i_add ez46 rfl (by decide) (by (first | exact om_42a03d5ac0bb r2.2 q19 klp13_1.1 xlp13_2 f16 | omega))
                    refine lv_iinc (v := z46) (lv' := [(3, .int z46), (4, .int y10), (2, .int y4), (0, .ref (ad 0)), (1, .int p0)]) hx hb dX12_candidatesOf_134 hl (k := 1) rfl (by rw [ez46]; rfl) (by decide) rfl (fun ls hl => ?_)
                    obtain ⟨z47, ez47⟩ : ∃ y : Int32, y = y10 + 1 := ⟨_, rfl⟩
                    have hz47 : z47.toInt = y10.toInt + 1 := i_add ez47 rfl (by decide) (by (first | exact om_cba3b1702db7 r2.2 q19 klp13_0.1 f16 | omega))
                    refine lv_iinc (v := z47) (lv' := [(4, .int z47), (3, .int z46), (2, .int y4), (0, .ref (ad 0)), (1, .int p0)]) hx hb dX12_candidatesOf_137 hl (k := 1) rfl (by rw [ez47]; rfl) (by decide) rfl (fun ls hl => ?_)
                    refine lv_goto (tgt := 74) hx hb dX12_candidatesOf_140 (by decide) ?_
                    have su48 : suP gs.1 (svm V bq (gs.2.1 1).length) (gs.1 (300 + 32 * gc + 4 * gj)) (gs.1 (302 + 32 * gc + 4 * gj)) (Int32.toNatClampNeg y10) = true := (by have h9 := (t23.resolve_right (fun h9 => by have h8 := h9.1; omega)).2; rw [sv6] at h9; exact h9)
                    have em9 : z47.toInt.toNat = (Int32.toNatClampNeg y10) + 1 := by (first | exact om_e74b57b43c73 klp13_0.1 kk17 hz47 | omega)
                    have l9 := xlp13_0
                    rw [show y10.toInt.toNat = (Int32.toNatClampNeg y10) from rfl] at l9
                    have b9 : y4.toInt = ((bsP gs.1 (svm V bq (gs.2.1 1).length) (gs.1 (300 + 32 * gc + 4 * gj)) (gs.1 (302 + 32 * gc + 4 * gj)) (gs.2.1 2).length : Nat) : Int) := bb9
                    exact ihlp13 z47 z46 V45 H locs ls (by (first | exact om_03bbbfa61cad r2.2 q19 klp13_0.1 f16 hz47 | omega)) (by (first | exact om_fd7621cf2ee5 r2.2 q19 klp13_1.1 xlp13_2 f16 hz46 | omega)) (by rw [em9, CLP_y (cdP_y su48 (Or.inr (by omega)))]; exact CLV.add l9 hV45 (by have h9 := i_clamp (x := y11) rfl (by (first | exact om_eafa9039069c klp13_1.1 | omega)); omega) (by omega) (by omega)) (show z47.toInt ≤ (((gs.2.1 2).length : Nat) : Int) from by (first | exact om_139e70ed6b2e ln q19 f16 hz47 | omega)) (show z46.toInt ≤ z47.toInt from by (first | exact om_953ed16b636a xlp13_2 hz46 hz47 | omega)) (by (first | exact om_9592d9319ffa hn hz47 | omega)) (agr.up (agr.tr agr.rf ajV12 (by decide) (by decide)) hV45 rfl) hMV45 hP hD hS (lv_sub hl [0, 1, 2, 3, 4] rfl)
        have r49 : Int32.toInt 0 = 0 := by decide
        exact lp13 ((24 - (Int32.toInt 0) + 1 : Int).toNat) 0 0 V H locs ls (by decide) (by decide) (by rw [show (Int32.toInt 0).toNat = 0 from by decide]; exact CLV.z rfl) (show (Int32.toInt 0) ≤ (((gs.2.1 2).length : Nat) : Int) from by (first | exact om_3f7d4d3a7b74 gcl r49 | omega)) (show (Int32.toInt 0) ≤ (Int32.toInt 0) from by (first | exact om_5977f3d8a10f | omega)) (by (first | exact om_817980d3aa47 | omega)) agr.rf hMV hP hD hS (lv_sub hl [0, 1, 2, 3, 4] rfl)
      · skip
        have f50 : y3.toInt < ((V 19 (Int32.toNatClampNeg (V 0 11)))).toInt := b_nle rfl rfl c7
        have kk51 := i_clamp (x := y3) rfl (by (first | exact om_eafa9039069c klp5_0.1 | omega))
        refine lv_aload_n hx hb dX12_candidatesOf_17 rfl (lv_at hl 2 rfl) ?_
        refine lv_iload_n hx hb dX12_candidatesOf_18 rfl (lv_at hl 3 rfl) ?_
        refine lv_iload_n hx hb dX12_candidatesOf_19 rfl (lv_at hl 0 rfl) ?_
        refine gA_int (gA_runV (As := [.int p0, .int y3]) (rest := []) (ci := 12) (q0 := 0) hx hb hml hown hg hP hD hK hS hA hnw hgk (s_suits6 l D ks H.size ad kk V L p0 y3 (bq) (gs) (gc) (gj) ((Int32.toNatClampNeg y3)) hMV (by (first | exact om_ee2ada808de7 rg_p0.2 zq1 pn r1.1 | omega)) (by (first | exact om_ac7b8d4d9f10 klp5_0.1 r6.2 f50 | omega)) (show ((bq) : Int) = (V 0 11).toInt from by (first | exact om_639da7453e33 zq1 | omega)) (show p0.toInt = ((8 * (24 * (bq) + (gc)) + (gj) : Nat) : Int) from by (first | exact om_5c6f91e56a35 pn | omega)) gcl gjl t24 (show y3.toInt = (((Int32.toNatClampNeg y3)) : Int) from by (first | exact om_dadc9969542e kk51 | omega)) (show (Int32.toNatClampNeg y3) < (gs.2.1 2).length from by (first | exact om_2278541b5b9f ln q19 f50 kk51 | omega)) com (show (V 19 (bq)).toInt = ((((gs).2.1 2).length : Nat) : Int) from by (first | exact om_08e0c9701055 ln | omega)) wh) w2176 w2178 w120 w172 w2179 rfl rfl hdV_yX12_suits ⟨Nat.le_of_ble_eq_true rfl, Nat.le_of_ble_eq_true rfl⟩ rfl hl.1 rfl (Nat.le_of_ble_eq_true rfl) dX12_candidatesOf_20 ⟨Nat.le_of_ble_eq_true rfl, Nat.le_of_ble_eq_true rfl⟩) hP hD hK hS hA (fun z52 u53 H locs w54 hP hD hK hS => ?_)
        obtain ⟨rgz52, t55⟩ := w54
        have rgz52 : 0 ≤ z52.toInt ∧ z52.toInt ≤ 1 := rgz52
        have t55 : (z52.toInt = 1 ∧ suP (gs).1 (svm V (bq) ((gs).2.1 1).length) ((gs).1 (300 + 32 * (gc) + 4 * (gj))) ((gs).1 (302 + 32 * (gc) + 4 * (gj))) ((Int32.toNatClampNeg y3)) = true) ∨ (z52.toInt = 0 ∧ suP (gs).1 (svm V (bq) ((gs).2.1 1).length) ((gs).1 (300 + 32 * (gc) + 4 * (gj))) ((gs).1 (302 + 32 * (gc) + 4 * (gj))) ((Int32.toNatClampNeg y3)) = false) := t55
        refine lv_if_eq (tgt := 61) hx hb dX12_candidatesOf_23 (by decide) (fun c56 => ?_) (fun c56 => ?_)
        · skip
          have f57 : z52.toInt = 0 := b_eq rfl (by decide) c56
          refine lv_iload_n hx hb dX12_candidatesOf_61 rfl (lv_at hl 1 rfl) ?_
          refine lv_istore_n (lv' := [(2, .int y4), (3, .int y3), (0, .ref (ad 0)), (1, .int p0)]) hx hb dX12_candidatesOf_62 rfl hl (by decide) rfl (fun ls hl => ?_)
          obtain ⟨z58, ez58⟩ : ∃ y : Int32, y = y3 + 1 := ⟨_, rfl⟩
          have hz58 : z58.toInt = y3.toInt + 1 := i_add ez58 rfl (by decide) (by (first | exact om_d1b22b2ae31e klp5_0.1 r6.2 f50 | omega))
          refine lv_iinc (v := z58) (lv' := [(3, .int z58), (2, .int y4), (0, .ref (ad 0)), (1, .int p0)]) hx hb dX12_candidatesOf_63 hl (k := 1) rfl (by rw [ez58]; rfl) (by decide) rfl (fun ls hl => ?_)
          refine lv_goto (tgt := 4) hx hb dX12_candidatesOf_66 (by decide) ?_
          have su59 : suP gs.1 (svm V bq (gs.2.1 1).length) (gs.1 (300 + 32 * gc + 4 * gj)) (gs.1 (302 + 32 * gc + 4 * gj)) (Int32.toNatClampNeg y3) = false := (t55.resolve_left (fun h9 => by have h8 := h9.1; omega)).2
          have em9 : z58.toInt.toNat = (Int32.toNatClampNeg y3) + 1 := by (first | exact om_e74b57b43c73 klp5_0.1 kk51 hz58 | omega)
          have b9 := xlp5_0
          rw [show y3.toInt.toNat = (Int32.toNatClampNeg y3) from rfl] at b9
          exact ihlp5 z58 y4 H locs ls (by (first | exact om_5c2541dbcd85 klp5_0.1 r6.2 f50 hz58 | omega)) (by (first | exact om_7b57350f0a3a klp5_1.1 klp5_1.2 | omega)) (by rw [em9, bsP_n su59]; omega) (show z58.toInt ≤ (((gs.2.1 2).length : Nat) : Int) from by (first | exact om_139e70ed6b2e ln q19 f50 hz58 | omega)) (by (first | exact om_9592d9319ffa hn hz58 | omega)) hP hD hS (lv_sub hl [0, 1, 2, 3] rfl)
        · skip
          have f60 : z52.toInt ≠ 0 := b_neq rfl (by decide) c56
          refine lv_aload_n hx hb dX12_candidatesOf_26 rfl (lv_at hl 2 rfl) ?_
          refine va_get (D := D) (ci := 12) (v := .ref (ad 24)) (C := RX12) (T := TX12) (N := 100) hx hb hg inX12 hown hK hP 0 rfl rfl 24 (by decide) (hg _ w1730) (fun _ h9 => h9) rfl dX12_candidatesOf_27 ?_
          refine lv_bipush (v := 24) hx hb dX12_candidatesOf_30 (by decide) ?_
          refine lv_aload_n hx hb dX12_candidatesOf_32 rfl (lv_at hl 2 rfl) ?_
          refine va_get (D := D) (ci := 12) (v := .int (V 0 11)) (C := RX12) (T := TX12) (N := 100) hx hb hg inX12 hown hK hP 0 rfl rfl 11 (by decide) (hg _ w1717) (fun _ h9 => h9) rfl dX12_candidatesOf_33 ?_
          refine lv_imul hx hb dX12_candidatesOf_36 ?_
          refine lv_topi (fun z61 ez61 => ?_)
          have hz61 : z61.toInt = 24 * ((V 0 11)).toInt := i_mul ez61 (by decide) rfl (by (first | exact om_3f8aba7b6ce1 r1.1 r1.2 | omega))
          refine lv_iload_n hx hb dX12_candidatesOf_37 rfl (lv_at hl 0 rfl) ?_
          refine lv_iadd hx hb dX12_candidatesOf_38 ?_
          refine lv_topi (fun z62 ez62 => ?_)
          have hz62 : z62.toInt = z61.toInt + y3.toInt := i_add ez62 rfl rfl (by (first | exact om_9c4efbfbadc9 r1.1 r1.2 klp5_0.1 r6.2 f50 hz61 | omega))
          have kr6 : Int32.toNatClampNeg z62 = 24 * bq + (Int32.toNatClampNeg y3) := by have h9 := i_clamp (x := z62) rfl (by (first | exact om_19aed6992cbe r1.1 klp5_0.1 hz61 hz62 | omega)); (first | exact om_4c29053cab98 zq1 kk51 hz61 hz62 h9 | omega)
          have r24 : (V 24 (Int32.toNatClampNeg z62)).toInt = ((gs.1 (63 + 8 * (Int32.toNatClampNeg y3)) : Nat) : Int) := by rw [kr6]; exact (com (Int32.toNatClampNeg y3) (by omega)).1.2.2.2.1
          refine va_iald (D := D) (i := z62) hx hb hK hP 17 16 rfl rfl (i_in (a := z62.toInt) rfl (by (first | exact om_6ae5e7bc2a17 r1.1 r1.2 klp5_0.1 r6.2 f50 hz61 hz62 | omega))) dX12_candidatesOf_39 ?_
          have r63 : 0 ≤ ((V 24 (Int32.toNatClampNeg z62))).toInt ∧ ((V 24 (Int32.toNatClampNeg z62))).toInt ≤ 9 := hMV 24 (Int32.toNatClampNeg z62)
          refine lv_iload_n hx hb dX12_candidatesOf_40 rfl (lv_at hl 1 rfl) ?_
          refine lv_icmp_le (tgt := 61) hx hb dX12_candidatesOf_41 (by decide) (fun c64 => ?_) (fun c64 => ?_)
          · skip
            have f65 : ((V 24 (Int32.toNatClampNeg z62))).toInt ≤ y4.toInt := b_le rfl rfl c64
            refine lv_iload_n hx hb dX12_candidatesOf_61 rfl (lv_at hl 1 rfl) ?_
            refine lv_istore_n (lv' := [(2, .int y4), (3, .int y3), (0, .ref (ad 0)), (1, .int p0)]) hx hb dX12_candidatesOf_62 rfl hl (by decide) rfl (fun ls hl => ?_)
            obtain ⟨z66, ez66⟩ : ∃ y : Int32, y = y3 + 1 := ⟨_, rfl⟩
            have hz66 : z66.toInt = y3.toInt + 1 := i_add ez66 rfl (by decide) (by (first | exact om_d1b22b2ae31e klp5_0.1 r6.2 f50 | omega))
            refine lv_iinc (v := z66) (lv' := [(3, .int z66), (2, .int y4), (0, .ref (ad 0)), (1, .int p0)]) hx hb dX12_candidatesOf_63 hl (k := 1) rfl (by rw [ez66]; rfl) (by decide) rfl (fun ls hl => ?_)
            refine lv_goto (tgt := 4) hx hb dX12_candidatesOf_66 (by decide) ?_
            have su67 : suP gs.1 (svm V bq (gs.2.1 1).length) (gs.1 (300 + 32 * gc + 4 * gj)) (gs.1 (302 + 32 * gc + 4 * gj)) (Int32.toNatClampNeg y3) = true := (t55.resolve_right (fun h9 => by have h8 := h9.1; omega)).2
            have em9 : z66.toInt.toNat = (Int32.toNatClampNeg y3) + 1 := by (first | exact om_e74b57b43c73 klp5_0.1 kk51 hz66 | omega)
            have b9 := xlp5_0
            rw [show y3.toInt.toNat = (Int32.toNatClampNeg y3) from rfl] at b9
            exact ihlp5 z66 y4 H locs ls (by (first | exact om_5c2541dbcd85 klp5_0.1 r6.2 f50 hz66 | omega)) (by (first | exact om_7b57350f0a3a klp5_1.1 klp5_1.2 | omega)) (by rw [em9, bsP_l (by omega)]; omega) (show z66.toInt ≤ (((gs.2.1 2).length : Nat) : Int) from by (first | exact om_139e70ed6b2e ln q19 f50 hz66 | omega)) (by (first | exact om_9592d9319ffa hn hz66 | omega)) hP hD hS (lv_sub hl [0, 1, 2, 3] rfl)
          · skip
            have f68 : y4.toInt < ((V 24 (Int32.toNatClampNeg z62))).toInt := b_nle rfl rfl c64
            refine lv_aload_n hx hb dX12_candidatesOf_44 rfl (lv_at hl 2 rfl) ?_
            refine va_get (D := D) (ci := 12) (v := .ref (ad 24)) (C := RX12) (T := TX12) (N := 100) hx hb hg inX12 hown hK hP 0 rfl rfl 24 (by decide) (hg _ w1730) (fun _ h9 => h9) rfl dX12_candidatesOf_45 ?_
            refine lv_bipush (v := 24) hx hb dX12_candidatesOf_48 (by decide) ?_
            refine lv_aload_n hx hb dX12_candidatesOf_50 rfl (lv_at hl 2 rfl) ?_
            refine va_get (D := D) (ci := 12) (v := .int (V 0 11)) (C := RX12) (T := TX12) (N := 100) hx hb hg inX12 hown hK hP 0 rfl rfl 11 (by decide) (hg _ w1717) (fun _ h9 => h9) rfl dX12_candidatesOf_51 ?_
            refine lv_imul hx hb dX12_candidatesOf_54 ?_
            refine lv_topi (fun z69 ez69 => ?_)
            have hz69 : z69.toInt = 24 * ((V 0 11)).toInt := i_mul ez69 (by decide) rfl (by (first | exact om_3f8aba7b6ce1 r1.1 r1.2 | omega))
            refine lv_iload_n hx hb dX12_candidatesOf_55 rfl (lv_at hl 0 rfl) ?_
            refine lv_iadd hx hb dX12_candidatesOf_56 ?_
            refine lv_topi (fun z70 ez70 => ?_)
            have hz70 : z70.toInt = z69.toInt + y3.toInt := i_add ez70 rfl rfl (by (first | exact om_9c4efbfbadc9 r1.1 r1.2 klp5_0.1 r6.2 f50 hz69 | omega))
            have kr6 : Int32.toNatClampNeg z70 = 24 * bq + (Int32.toNatClampNeg y3) := by have h9 := i_clamp (x := z70) rfl (by (first | exact om_19aed6992cbe r1.1 klp5_0.1 hz69 hz70 | omega)); (first | exact om_4c29053cab98 zq1 kk51 hz69 hz70 h9 | omega)
            have r24 : (V 24 (Int32.toNatClampNeg z70)).toInt = ((gs.1 (63 + 8 * (Int32.toNatClampNeg y3)) : Nat) : Int) := by rw [kr6]; exact (com (Int32.toNatClampNeg y3) (by omega)).1.2.2.2.1
            refine va_iald (D := D) (i := z70) hx hb hK hP 17 16 rfl rfl (i_in (a := z70.toInt) rfl (by (first | exact om_6ae5e7bc2a17 r1.1 r1.2 klp5_0.1 r6.2 f50 hz69 hz70 | omega))) dX12_candidatesOf_57 ?_
            have r71 : 0 ≤ ((V 24 (Int32.toNatClampNeg z70))).toInt ∧ ((V 24 (Int32.toNatClampNeg z70))).toInt ≤ 9 := hMV 24 (Int32.toNatClampNeg z70)
            refine lv_goto (tgt := 62) hx hb dX12_candidatesOf_58 (by decide) ?_
            refine lv_istore_n (lv' := [(2, .int (V 24 (Int32.toNatClampNeg z70))), (3, .int y3), (0, .ref (ad 0)), (1, .int p0)]) hx hb dX12_candidatesOf_62 rfl hl (by decide) rfl (fun ls hl => ?_)
            obtain ⟨z72, ez72⟩ : ∃ y : Int32, y = y3 + 1 := ⟨_, rfl⟩
            have hz72 : z72.toInt = y3.toInt + 1 := i_add ez72 rfl (by decide) (by (first | exact om_d1b22b2ae31e klp5_0.1 r6.2 f50 | omega))
            refine lv_iinc (v := z72) (lv' := [(3, .int z72), (2, .int (V 24 (Int32.toNatClampNeg z70))), (0, .ref (ad 0)), (1, .int p0)]) hx hb dX12_candidatesOf_63 hl (k := 1) rfl (by rw [ez72]; rfl) (by decide) rfl (fun ls hl => ?_)
            refine lv_goto (tgt := 4) hx hb dX12_candidatesOf_66 (by decide) ?_
            have su73 : suP gs.1 (svm V bq (gs.2.1 1).length) (gs.1 (300 + 32 * gc + 4 * gj)) (gs.1 (302 + 32 * gc + 4 * gj)) (Int32.toNatClampNeg y3) = true := (t55.resolve_right (fun h9 => by have h8 := h9.1; omega)).2
            have em9 : z72.toInt.toNat = (Int32.toNatClampNeg y3) + 1 := by (first | exact om_e74b57b43c73 klp5_0.1 kk51 hz72 | omega)
            have b9 := xlp5_0
            rw [show y3.toInt.toNat = (Int32.toNatClampNeg y3) from rfl] at b9
            exact ihlp5 z72 (V 24 (Int32.toNatClampNeg z70)) H locs ls (by (first | exact om_5c2541dbcd85 klp5_0.1 r6.2 f50 hz72 | omega)) (by (first | exact om_7b57350f0a3a r71.1 r71.2 | omega)) (by rw [em9, bsP_h su73 (by omega)]; omega) (show z72.toInt ≤ (((gs.2.1 2).length : Nat) : Int) from by (first | exact om_139e70ed6b2e ln q19 f50 hz72 | omega)) (by (first | exact om_9592d9319ffa hn hz72 | omega)) hP hD hS (lv_sub hl [0, 1, 2, 3] rfl)
  have r74 : Int32.toInt 0 = 0 := by decide
  exact lp5 ((24 - (Int32.toInt 0) + 1 : Int).toNat) 0 0 H locs ls (by decide) (by decide) (by rw [show (Int32.toInt 0).toNat = 0 from by decide]; rfl) (show (Int32.toInt 0) ≤ (((gs.2.1 2).length : Nat) : Int) from by (first | exact om_3f7d4d3a7b74 gcl r74 | omega)) (by (first | exact om_817980d3aa47 | omega)) hP hD hS (lv_sub hl [0, 1, 2, 3] rfl)
