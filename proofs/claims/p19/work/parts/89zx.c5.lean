/-! where an object belongs, what is there, what is spoiled: as the class asks it -/
section RWst
variable {V W : Vf} {ow : Nat → Nat} {B : Bk} {m : Mm} {a : Int32} {fs : List Fr}
theorem RWn.plc9 {sk : Nat} {p0 sc r : Int} (h : RWn V ow B m) (h0 : 0 ≤ sc) (h1 : sc < (V 3 12).toInt) (hk : p0 = (sk : Int)) (h3 : sk ≤ 3) (d : (p0 = 0 ∧ r = 0) ∨ (p0 = 1 ∧ (V 21 sc.toNat).toInt = 1 ∧ r = sc) ∨ (p0 = 1 ∧ (V 21 sc.toNat).toInt = 2 ∧ r = (V 22 sc.toNat).toInt) ∨ (p0 = 1 ∧ (V 21 sc.toNat).toInt ≠ 1 ∧ (V 21 sc.toNat).toInt ≠ 2 ∧ r = -1) ∨ (p0 = 2 ∧ (V 21 sc.toNat).toInt = 2 ∧ r = sc) ∨ (p0 = 2 ∧ (V 21 sc.toNat).toInt ≠ 2 ∧ r = -1) ∨ ((p0 < 0 ∨ 2 < p0) ∧ r = sc)) : plc m sk sc = r ∧ (r = -1 ∨ (0 ≤ r ∧ r < (V 3 12).toInt)) := by
  have hs := h.2.2.2.1
  have hz := hs.1.1
  have ha := hs.2.1 sc.toNat (by (first | exact om_8f02ebe9d713 h1 hz | omega))
  have hb := (hs.2.2 sc.toNat (by (first | exact om_cbf3022f6645 h1 hz | omega))).2.1
  unfold plc
  rcases d with d | d | d | d | d | d | d
  · rw [if_pos (by (first | exact om_be8421247dbc hk d | omega))]
    (first | exact om_83e15474a409 hz d | omega)
  · rw [if_neg (by (first | exact om_dbd46e899176 hk d | omega)), if_neg (by (first | exact om_1c9cae497679 hk d | omega)), if_neg (by (first | exact om_1fa321ea5a9d hk d | omega)), if_pos (by (first | exact om_dbe6e610e954 ha d | omega))]
    (first | exact om_00841b1ab00d h0 h1 d | omega)
  · rw [if_neg (by (first | exact om_2cda25370d78 hk d | omega)), if_neg (by (first | exact om_5f90438b2a05 hk d | omega)), if_neg (by (first | exact om_aa782b47dda0 hk d | omega)), if_neg (by (first | exact om_73fe8296f765 ha d | omega)), if_pos (by (first | exact om_af0d92005f98 ha d | omega))]
    have q := hb (by (first | exact om_af0d92005f98 ha d | omega))
    (first | exact om_619617cfdaa9 d q | omega)
  · rw [if_neg (by (first | exact om_834204fd05d1 hk d | omega)), if_neg (by (first | exact om_e26b62f479c6 hk d | omega)), if_neg (by (first | exact om_dc07a99b8ace hk d | omega)), if_neg (by (first | exact om_442fe541386e ha d | omega)), if_neg (by (first | exact om_0721deba2ba9 ha d | omega))]
    (first | exact om_aa8db6d63bdc hz d | omega)
  · rw [if_neg (by (first | exact om_02337752eff6 hk d | omega)), if_neg (by (first | exact om_4bdb8d8ff738 hk d | omega)), if_pos (by (first | exact om_7206e9f0a40e hk d | omega)), if_pos (by (first | exact om_9ceddc5505ab ha d | omega))]
    (first | exact om_abad40b6b916 h0 h1 d | omega)
  · rw [if_neg (by (first | exact om_57c2389c8fa0 hk d | omega)), if_neg (by (first | exact om_1be41ce176c5 hk d | omega)), if_pos (by (first | exact om_04881fdf12fd hk d | omega)), if_neg (by (first | exact om_ffdd153ce37d ha d | omega))]
    (first | exact om_771262f4b907 hz d | omega)
  · rw [if_neg (by (first | exact om_963b0db6aacb hk d | omega)), if_pos (by (first | exact om_6f41c0055924 hk h3 d | omega))]
    (first | exact om_32070966756b h0 h1 d | omega)
theorem RWn.spl {s c : Nat} (h : RWn V ow B m) (hs : (s : Int) < (V 3 12).toInt) (hc : c < 24) : bt (V 24 s) c = true ↔ m 8 (24 * s + c) ≠ 0 := (h.2.2.2.1.2.2 s hs).2.2 c hc
theorem RWn.prs9 {s c : Nat} (h : RWn V ow B m) (hs : (s : Int) < (V 3 12).toInt) (hc : c < nC B) (q : bS B c ≠ 3) : (V 25 (24 * s + c)).toInt = prs m (s : Int) (c : Int) (m 0 2).toNat := h.2.2.2.2.1 s c (by have z := h.2.2.2.1.1.1; omega) hc q
theorem BKc.sc {b c : Nat} (h : BKc V b B) (hc : c < nC B) : (V 51 (24 * b + c)).toInt = ((bS B c : Nat) : Int) := (h.2.2.2.1.2.2 c hc).1.2.1
theorem mSt_o {x j : Nat} (h : ¬ (x = 0 ∧ (j = 0 ∨ j = 1))) : mSt m x j = m x j := by
  unfold mSt
  rw [mU_o _ _ (by (first | exact om_1f81f326d892 h | omega)), mU_o _ _ (by (first | exact om_38f31346277a h | omega))]
theorem mNw_0 {c p : Int} {j : Nat} (h : j ≠ 2) : mNew m c p 0 j = m 0 j := by
  unfold mNew
  rw [if_neg (by (first | exact om_1ee091d20121 h | omega)), if_neg (by (first | exact om_f99654befa24  | omega)), if_neg (by (first | exact om_2a24785d8124  | omega)), if_neg (by (first | exact om_12660b716f11  | omega)), if_neg (by (first | exact om_3e2551ca0289  | omega))]
theorem mNw_5 {c p : Int} {j : Nat} : mNew m c p 5 j = m 5 j := by
  unfold mNew
  rw [if_neg (by (first | exact om_c368dd71a0c4  | omega)), if_neg (by (first | exact om_47199b9fa6a4  | omega)), if_neg (by (first | exact om_df144ed0025f  | omega)), if_neg (by (first | exact om_a5966dba4768  | omega)), if_neg (by (first | exact om_aa5a10ce97e3  | omega))]
theorem prs_st {pl c : Int} {n : Nat} : prs (mSt m) pl c n = prs m pl c n := prs_ext n (fun x _ => by rw [mSt_o (by (first | exact om_9e36ff5d7016  | omega)), mSt_o (by (first | exact om_23cceccb67a6  | omega)), mSt_o (by (first | exact om_a4ad00e9b4a5  | omega))])
theorem agr_bo (q : agr [(3, 13)] [25, 26, 27, 28, 30] V W) {c k : Nat} (h1 : c ≠ 25) (h2 : c ≠ 26) (h3 : c ≠ 27) (h4 : c ≠ 28) (h5 : c ≠ 30) (h7 : ¬ (c = 3 ∧ k = 13)) : W c k = V c k := q c k (by
  unfold wrL
  rw [Bool.or_eq_false_iff]
  refine ⟨?_, ?_⟩
  · rw [← Bool.not_eq_true]
    intro z
    have y := List.contains_iff_mem.mp z
    simp only [List.mem_cons, List.not_mem_nil, or_false, Prod.mk.injEq] at y
    exact h7 y
  · rw [← Bool.not_eq_true]
    intro z
    have y := List.contains_iff_mem.mp z
    simp only [List.mem_cons, List.not_mem_nil, or_false] at y
    omega)
end RWst


abbrev r_x_placeOf9 : Room := { frames := 0, cells := 0, slots := 0, locals := 0 }
abbrev q_x_placeOf9 (D : va_G) (ks : KS) (ad : Nat → Nat) (kk : Nat → ClassId) (V : Vf) (L : Lf) (Z : XZ) (p0 : Int32) (p1 : Int32) (A : Nat → Prop) : Array Value → State → Outcome → State → Prop := va_Qi (fun (r : Int32) (_ : Unit) => ((-1) ≤ r.toInt ∧ r.toInt ≤ 39) ∧ ((p0.toInt = 0 ∧ r.toInt = 0) ∨ (p0.toInt = 1 ∧ (V 21 (Int32.toNatClampNeg p1)).toInt = 1 ∧ r.toInt = p1.toInt) ∨ (p0.toInt = 1 ∧ (V 21 (Int32.toNatClampNeg p1)).toInt = 2 ∧ r.toInt = (V 22 (Int32.toNatClampNeg p1)).toInt) ∨ (p0.toInt = 1 ∧ (V 21 (Int32.toNatClampNeg p1)).toInt ≠ 1 ∧ (V 21 (Int32.toNatClampNeg p1)).toInt ≠ 2 ∧ r.toInt = -1) ∨ (p0.toInt = 2 ∧ (V 21 (Int32.toNatClampNeg p1)).toInt = 2 ∧ r.toInt = p1.toInt) ∨ (p0.toInt = 2 ∧ (V 21 (Int32.toNatClampNeg p1)).toInt ≠ 2 ∧ r.toInt = -1) ∨ ((p0.toInt < 0 ∨ 2 < p0.toInt) ∧ r.toInt = p1.toInt))) (fun _ t => gq D A (xw ad kk V L Z) (xty kk Z) t) A
set_option maxHeartbeats 4000000 in
set_option maxRecDepth 100000 in
theorem x_placeOf9 (l : Launch) (D : va_G) (ks : KS) (sz : Nat) (ad : Nat → Nat) (kk : Nat → ClassId) (V : Vf) (L : Lf) (Z : XZ) (p0 : Int32) (p1 : Int32) (hMV : rgd bX V) (rg_p1 : 0 ≤ p1.toInt ∧ p1.toInt ≤ 39)  : Met l yX8_placeOf (Cond.code yX8_placeOf cX8_placeOf 4 (some .int) :: GW) r_x_placeOf9 (va_Pc [.ref (ad 3), .int p0, .int p1] (gp D ks (xw ad kk V L Z) (xty kk Z) sz)) (q_x_placeOf9 D ks ad kk V L Z p0 p1 (va_A (xw ad kk V L Z) sz)) 0 0 (va_A (xw ad kk V L Z) sz) := by
  refine g_met (q_x_placeOf9 D ks ad kk V L Z p0 p1) (by decide) (Nat.le_of_ble_eq_true rfl) ?_
  intro p e s m below meth c A ls H locs hx hb hr hml hown hg hlocks hin hnw hgk hP hK hD hS hA hl
  replace hown : s.vm.findClass RX8 = some m.cls := hown
  replace hl : lv_has ls 4 [(0, .ref (ad 3)), (1, .int p0), (2, .int p1)] := hl
  replace hP : va_P D vwCl (xw ad kk V L Z) H := hP
  replace hD : va_D A (xw ad kk V L Z) := hD
  replace hK : va_K D vwCl (xty kk Z) s := hK
  refine lv_aload_n hx hb dX8_placeOf_0 rfl (lv_at hl 0 rfl) ?_
  refine va_get (D := D) (ci := 8) (v := .ref (ad 18)) (fs := (xfStock ad V L Z)) (C := RX8) (T := TX8) (N := 16) hx hb hg inX8 hown hK hP 3 xgStock rfl 0 (by decide) (hg _ w373) (fun _ h9 => h9) rfl dX8_placeOf_1 ?_
  refine lv_iload_n hx hb dX8_placeOf_4 rfl (lv_at hl 2 rfl) ?_
  refine va_iald (D := D) (i := p1) hx hb hK hP 18 11 rfl rfl (i_in (a := p1.toInt) rfl (by (first | exact om_b30bbaedcaa6 rg_p1 | omega))) dX8_placeOf_5 ?_
  refine lv_istore_n (lv' := [(3, .int (V 21 (Int32.toNatClampNeg p1))), (0, .ref (ad 3)), (1, .int p0), (2, .int p1)]) hx hb dX8_placeOf_6 rfl hl (by decide) rfl (fun ls hl => ?_)
  refine lv_iload_n hx hb dX8_placeOf_7 rfl (lv_at hl 2 rfl) ?_
  by_cases q1 : p0 = 0
  · refine g_top (v := 0) q1 ?_
    have fq1 : p0.toInt = 0 := b_eq rfl (by decide) q1
    refine lv_tableIn (x := 0) (off := 28) (tgt := 36) hx hb dX8_placeOf_8 (by decide) (by decide) (by decide) (by decide) ?_
    refine lv_iconst (v := 0) hx hb dX8_placeOf_36 (by decide) ?_
    have r2 : 0 ≤ ((V 22 (Int32.toNatClampNeg p1))).toInt ∧ ((V 22 (Int32.toNatClampNeg p1))).toInt ≤ 39 := hMV 22 (Int32.toNatClampNeg p1)
    exact W.iret (v := 0) hx hb hr (fun t ht hW => ⟨⟨0, (), rfl, ⟨(by decide), (show (p0.toInt = 0 ∧ 0 = 0) ∨ (p0.toInt = 1 ∧ (V 21 (Int32.toNatClampNeg p1)).toInt = 1 ∧ 0 = p1.toInt) ∨ (p0.toInt = 1 ∧ (V 21 (Int32.toNatClampNeg p1)).toInt = 2 ∧ 0 = (V 22 (Int32.toNatClampNeg p1)).toInt) ∨ (p0.toInt = 1 ∧ (V 21 (Int32.toNatClampNeg p1)).toInt ≠ 1 ∧ (V 21 (Int32.toNatClampNeg p1)).toInt ≠ 2 ∧ 0 = -1) ∨ (p0.toInt = 2 ∧ (V 21 (Int32.toNatClampNeg p1)).toInt = 2 ∧ 0 = p1.toInt) ∨ (p0.toInt = 2 ∧ (V 21 (Int32.toNatClampNeg p1)).toInt ≠ 2 ∧ 0 = -1) ∨ ((p0.toInt < 0 ∨ 2 < p0.toInt) ∧ 0 = p1.toInt) from by (first | exact om_1691e90b1e6a rg_p1 fq1 r2 | omega))⟩, by rw [ht]; exact hP, va_K.moved hW.alike hK, hD⟩, hS.F ht⟩) hS.2.2 dX8_placeOf_37
  by_cases q3 : p0 = 1
  · refine g_top (v := 1) q3 ?_
    have fq3 : p0.toInt = 1 := b_eq rfl (by decide) q3
    refine lv_tableIn (x := 1) (off := 30) (tgt := 38) hx hb dX8_placeOf_8 (by decide) (by decide) (by decide) (by decide) ?_
    refine lv_iload_n hx hb dX8_placeOf_38 rfl (lv_at hl 0 rfl) ?_
    refine lv_iconst (v := 1) hx hb dX8_placeOf_39 (by decide) ?_
    refine lv_icmp_ne (tgt := 47) hx hb dX8_placeOf_40 (by decide) (fun c4 => ?_) (fun c4 => ?_)
    · skip
      have f5 : ((V 21 (Int32.toNatClampNeg p1))).toInt ≠ 1 := b_neq rfl (by decide) c4
      refine lv_iload_n hx hb dX8_placeOf_47 rfl (lv_at hl 0 rfl) ?_
      refine lv_iconst (v := 2) hx hb dX8_placeOf_48 (by decide) ?_
      refine lv_icmp_ne (tgt := 61) hx hb dX8_placeOf_49 (by decide) (fun c6 => ?_) (fun c6 => ?_)
      · skip
        have f7 : ((V 21 (Int32.toNatClampNeg p1))).toInt ≠ 2 := b_neq rfl (by decide) c6
        refine lv_iconst (v := (-1)) hx hb dX8_placeOf_61 (by decide) ?_
        have r8 : 0 ≤ ((V 22 (Int32.toNatClampNeg p1))).toInt ∧ ((V 22 (Int32.toNatClampNeg p1))).toInt ≤ 39 := hMV 22 (Int32.toNatClampNeg p1)
        exact W.iret (v := (-1)) hx hb hr (fun t ht hW => ⟨⟨(-1), (), rfl, ⟨(by decide), (show (p0.toInt = 0 ∧ (-1) = 0) ∨ (p0.toInt = 1 ∧ (V 21 (Int32.toNatClampNeg p1)).toInt = 1 ∧ (-1) = p1.toInt) ∨ (p0.toInt = 1 ∧ (V 21 (Int32.toNatClampNeg p1)).toInt = 2 ∧ (-1) = (V 22 (Int32.toNatClampNeg p1)).toInt) ∨ (p0.toInt = 1 ∧ (V 21 (Int32.toNatClampNeg p1)).toInt ≠ 1 ∧ (V 21 (Int32.toNatClampNeg p1)).toInt ≠ 2 ∧ (-1) = -1) ∨ (p0.toInt = 2 ∧ (V 21 (Int32.toNatClampNeg p1)).toInt = 2 ∧ (-1) = p1.toInt) ∨ (p0.toInt = 2 ∧ (V 21 (Int32.toNatClampNeg p1)).toInt ≠ 2 ∧ (-1) = -1) ∨ ((p0.toInt < 0 ∨ 2 < p0.toInt) ∧ (-1) = p1.toInt) from by (first | exact om_78c309e0f2f9 rg_p1 fq3 f5 f7 r8 | omega))⟩, by rw [ht]; exact hP, va_K.moved hW.alike hK, hD⟩, hS.F ht⟩) hS.2.2 dX8_placeOf_62
      · skip
        have f9 : ((V 21 (Int32.toNatClampNeg p1))).toInt = 2 := b_eq rfl (by decide) c6
        refine lv_aload_n hx hb dX8_placeOf_52 rfl (lv_at hl 1 rfl) ?_
        refine va_get (D := D) (ci := 8) (v := .ref (ad 19)) (fs := (xfStock ad V L Z)) (C := RX8) (T := TX8) (N := 16) hx hb hg inX8 hown hK hP 3 xgStock rfl 1 (by decide) (hg _ w375) (fun _ h9 => h9) rfl dX8_placeOf_53 ?_
        refine lv_iload_n hx hb dX8_placeOf_56 rfl (lv_at hl 3 rfl) ?_
        refine va_iald (D := D) (i := p1) hx hb hK hP 19 12 rfl rfl (i_in (a := p1.toInt) rfl (by (first | exact om_b30bbaedcaa6 rg_p1 | omega))) dX8_placeOf_57 ?_
        have r10 : 0 ≤ ((V 22 (Int32.toNatClampNeg p1))).toInt ∧ ((V 22 (Int32.toNatClampNeg p1))).toInt ≤ 39 := hMV 22 (Int32.toNatClampNeg p1)
        refine lv_goto (tgt := 62) hx hb dX8_placeOf_58 (by decide) ?_
        exact W.iret (v := (V 22 (Int32.toNatClampNeg p1))) hx hb hr (fun t ht hW => ⟨⟨(V 22 (Int32.toNatClampNeg p1)), (), rfl, ⟨(show (-1) ≤ ((V 22 (Int32.toNatClampNeg p1))).toInt ∧ ((V 22 (Int32.toNatClampNeg p1))).toInt ≤ 39 from by (first | exact om_1e888c309859 r10 | omega)), (show (p0.toInt = 0 ∧ ((V 22 (Int32.toNatClampNeg p1))).toInt = 0) ∨ (p0.toInt = 1 ∧ (V 21 (Int32.toNatClampNeg p1)).toInt = 1 ∧ ((V 22 (Int32.toNatClampNeg p1))).toInt = p1.toInt) ∨ (p0.toInt = 1 ∧ (V 21 (Int32.toNatClampNeg p1)).toInt = 2 ∧ ((V 22 (Int32.toNatClampNeg p1))).toInt = (V 22 (Int32.toNatClampNeg p1)).toInt) ∨ (p0.toInt = 1 ∧ (V 21 (Int32.toNatClampNeg p1)).toInt ≠ 1 ∧ (V 21 (Int32.toNatClampNeg p1)).toInt ≠ 2 ∧ ((V 22 (Int32.toNatClampNeg p1))).toInt = -1) ∨ (p0.toInt = 2 ∧ (V 21 (Int32.toNatClampNeg p1)).toInt = 2 ∧ ((V 22 (Int32.toNatClampNeg p1))).toInt = p1.toInt) ∨ (p0.toInt = 2 ∧ (V 21 (Int32.toNatClampNeg p1)).toInt ≠ 2 ∧ ((V 22 (Int32.toNatClampNeg p1))).toInt = -1) ∨ ((p0.toInt < 0 ∨ 2 < p0.toInt) ∧ ((V 22 (Int32.toNatClampNeg p1))).toInt = p1.toInt) from by (first | exact om_4ac56e856c75 fq3 f9 r10 | omega))⟩, by rw [ht]; exact hP, va_K.moved hW.alike hK, hD⟩, hS.F ht⟩) hS.2.2 dX8_placeOf_62
    · skip
      have f11 : ((V 21 (Int32.toNatClampNeg p1))).toInt = 1 := b_eq rfl (by decide) c4
      refine lv_iload_n hx hb dX8_placeOf_43 rfl (lv_at hl 3 rfl) ?_
      refine lv_goto (tgt := 62) hx hb dX8_placeOf_44 (by decide) ?_
      have r12 : 0 ≤ ((V 22 (Int32.toNatClampNeg p1))).toInt ∧ ((V 22 (Int32.toNatClampNeg p1))).toInt ≤ 39 := hMV 22 (Int32.toNatClampNeg p1)
      exact W.iret (v := p1) hx hb hr (fun t ht hW => ⟨⟨p1, (), rfl, ⟨(show (-1) ≤ p1.toInt ∧ p1.toInt ≤ 39 from by (first | exact om_1e888c309859 rg_p1 | omega)), (show (p0.toInt = 0 ∧ p1.toInt = 0) ∨ (p0.toInt = 1 ∧ (V 21 (Int32.toNatClampNeg p1)).toInt = 1 ∧ p1.toInt = p1.toInt) ∨ (p0.toInt = 1 ∧ (V 21 (Int32.toNatClampNeg p1)).toInt = 2 ∧ p1.toInt = (V 22 (Int32.toNatClampNeg p1)).toInt) ∨ (p0.toInt = 1 ∧ (V 21 (Int32.toNatClampNeg p1)).toInt ≠ 1 ∧ (V 21 (Int32.toNatClampNeg p1)).toInt ≠ 2 ∧ p1.toInt = -1) ∨ (p0.toInt = 2 ∧ (V 21 (Int32.toNatClampNeg p1)).toInt = 2 ∧ p1.toInt = p1.toInt) ∨ (p0.toInt = 2 ∧ (V 21 (Int32.toNatClampNeg p1)).toInt ≠ 2 ∧ p1.toInt = -1) ∨ ((p0.toInt < 0 ∨ 2 < p0.toInt) ∧ p1.toInt = p1.toInt) from by (first | exact om_d14eca6efb10 rg_p1 fq3 f11 | omega))⟩, by rw [ht]; exact hP, va_K.moved hW.alike hK, hD⟩, hS.F ht⟩) hS.2.2 dX8_placeOf_62
  by_cases q13 : p0 = 2
  · refine g_top (v := 2) q13 ?_
    have fq13 : p0.toInt = 2 := b_eq rfl (by decide) q13
    refine lv_tableIn (x := 2) (off := 55) (tgt := 63) hx hb dX8_placeOf_8 (by decide) (by decide) (by decide) (by decide) ?_
    refine lv_iload_n hx hb dX8_placeOf_63 rfl (lv_at hl 0 rfl) ?_
    refine lv_iconst (v := 2) hx hb dX8_placeOf_64 (by decide) ?_
    refine lv_icmp_ne (tgt := 72) hx hb dX8_placeOf_65 (by decide) (fun c14 => ?_) (fun c14 => ?_)
    · skip
      have f15 : ((V 21 (Int32.toNatClampNeg p1))).toInt ≠ 2 := b_neq rfl (by decide) c14
      refine lv_iconst (v := (-1)) hx hb dX8_placeOf_72 (by decide) ?_
      have r16 : 0 ≤ ((V 22 (Int32.toNatClampNeg p1))).toInt ∧ ((V 22 (Int32.toNatClampNeg p1))).toInt ≤ 39 := hMV 22 (Int32.toNatClampNeg p1)
      exact W.iret (v := (-1)) hx hb hr (fun t ht hW => ⟨⟨(-1), (), rfl, ⟨(by decide), (show (p0.toInt = 0 ∧ (-1) = 0) ∨ (p0.toInt = 1 ∧ (V 21 (Int32.toNatClampNeg p1)).toInt = 1 ∧ (-1) = p1.toInt) ∨ (p0.toInt = 1 ∧ (V 21 (Int32.toNatClampNeg p1)).toInt = 2 ∧ (-1) = (V 22 (Int32.toNatClampNeg p1)).toInt) ∨ (p0.toInt = 1 ∧ (V 21 (Int32.toNatClampNeg p1)).toInt ≠ 1 ∧ (V 21 (Int32.toNatClampNeg p1)).toInt ≠ 2 ∧ (-1) = -1) ∨ (p0.toInt = 2 ∧ (V 21 (Int32.toNatClampNeg p1)).toInt = 2 ∧ (-1) = p1.toInt) ∨ (p0.toInt = 2 ∧ (V 21 (Int32.toNatClampNeg p1)).toInt ≠ 2 ∧ (-1) = -1) ∨ ((p0.toInt < 0 ∨ 2 < p0.toInt) ∧ (-1) = p1.toInt) from by (first | exact om_0d92cc0f3a36 rg_p1 fq13 f15 r16 | omega))⟩, by rw [ht]; exact hP, va_K.moved hW.alike hK, hD⟩, hS.F ht⟩) hS.2.2 dX8_placeOf_73
    · skip
      have f17 : ((V 21 (Int32.toNatClampNeg p1))).toInt = 2 := b_eq rfl (by decide) c14
      refine lv_iload_n hx hb dX8_placeOf_68 rfl (lv_at hl 3 rfl) ?_
      refine lv_goto (tgt := 73) hx hb dX8_placeOf_69 (by decide) ?_
      have r18 : 0 ≤ ((V 22 (Int32.toNatClampNeg p1))).toInt ∧ ((V 22 (Int32.toNatClampNeg p1))).toInt ≤ 39 := hMV 22 (Int32.toNatClampNeg p1)
      exact W.iret (v := p1) hx hb hr (fun t ht hW => ⟨⟨p1, (), rfl, ⟨(show (-1) ≤ p1.toInt ∧ p1.toInt ≤ 39 from by (first | exact om_1e888c309859 rg_p1 | omega)), (show (p0.toInt = 0 ∧ p1.toInt = 0) ∨ (p0.toInt = 1 ∧ (V 21 (Int32.toNatClampNeg p1)).toInt = 1 ∧ p1.toInt = p1.toInt) ∨ (p0.toInt = 1 ∧ (V 21 (Int32.toNatClampNeg p1)).toInt = 2 ∧ p1.toInt = (V 22 (Int32.toNatClampNeg p1)).toInt) ∨ (p0.toInt = 1 ∧ (V 21 (Int32.toNatClampNeg p1)).toInt ≠ 1 ∧ (V 21 (Int32.toNatClampNeg p1)).toInt ≠ 2 ∧ p1.toInt = -1) ∨ (p0.toInt = 2 ∧ (V 21 (Int32.toNatClampNeg p1)).toInt = 2 ∧ p1.toInt = p1.toInt) ∨ (p0.toInt = 2 ∧ (V 21 (Int32.toNatClampNeg p1)).toInt ≠ 2 ∧ p1.toInt = -1) ∨ ((p0.toInt < 0 ∨ 2 < p0.toInt) ∧ p1.toInt = p1.toInt) from by (first | exact om_34a1b2112177 rg_p1 fq13 f17 | omega))⟩, by rw [ht]; exact hP, va_K.moved hW.alike hK, hD⟩, hS.F ht⟩) hS.2.2 dX8_placeOf_73
  refine lv_tableOut (x := p0) (tgt := 74) hx hb dX8_placeOf_8 (tab_out p0 2 (by decide) (fun k hk => match k, hk with | 0, _ => q1 | 1, _ => q3 | 2, _ => q13 | k + 3, hk => absurd hk (by (first | exact om_d58d8a2eb20a hk | omega)))) (by decide) ?_
  have gd19 : p0.toInt ≠ 0 := fun h9 => q1 (Int32.toInt_inj.mp (h9.trans (by decide)))
  have gd20 : p0.toInt ≠ 1 := fun h9 => q3 (Int32.toInt_inj.mp (h9.trans (by decide)))
  have gd21 : p0.toInt ≠ 2 := fun h9 => q13 (Int32.toInt_inj.mp (h9.trans (by decide)))
  refine lv_iload_n hx hb dX8_placeOf_74 rfl (lv_at hl 3 rfl) ?_
  have r22 : 0 ≤ ((V 22 (Int32.toNatClampNeg p1))).toInt ∧ ((V 22 (Int32.toNatClampNeg p1))).toInt ≤ 39 := hMV 22 (Int32.toNatClampNeg p1)
  exact W.iret (v := p1) hx hb hr (fun t ht hW => ⟨⟨p1, (), rfl, ⟨(show (-1) ≤ p1.toInt ∧ p1.toInt ≤ 39 from by (first | exact om_1e888c309859 rg_p1 | omega)), (show (p0.toInt = 0 ∧ p1.toInt = 0) ∨ (p0.toInt = 1 ∧ (V 21 (Int32.toNatClampNeg p1)).toInt = 1 ∧ p1.toInt = p1.toInt) ∨ (p0.toInt = 1 ∧ (V 21 (Int32.toNatClampNeg p1)).toInt = 2 ∧ p1.toInt = (V 22 (Int32.toNatClampNeg p1)).toInt) ∨ (p0.toInt = 1 ∧ (V 21 (Int32.toNatClampNeg p1)).toInt ≠ 1 ∧ (V 21 (Int32.toNatClampNeg p1)).toInt ≠ 2 ∧ p1.toInt = -1) ∨ (p0.toInt = 2 ∧ (V 21 (Int32.toNatClampNeg p1)).toInt = 2 ∧ p1.toInt = p1.toInt) ∨ (p0.toInt = 2 ∧ (V 21 (Int32.toNatClampNeg p1)).toInt ≠ 2 ∧ p1.toInt = -1) ∨ ((p0.toInt < 0 ∨ 2 < p0.toInt) ∧ p1.toInt = p1.toInt) from by (first | exact om_2c5513aa4ce0 rg_p1 gd19 gd20 gd21 | omega))⟩, by rw [ht]; exact hP, va_K.moved hW.alike hK, hD⟩, hS.F ht⟩) hS.2.2 dX8_placeOf_75
abbrev r_x_isSpoiled9 : Room := { frames := 0, cells := 0, slots := 0, locals := 0 }
abbrev q_x_isSpoiled9 (D : va_G) (ks : KS) (ad : Nat → Nat) (kk : Nat → ClassId) (V : Vf) (L : Lf) (Z : XZ) (p0 : Int32) (p1 : Int32) (A : Nat → Prop) : Array Value → State → Outcome → State → Prop := va_Qi (fun (r : Int32) (_ : Unit) => (0 ≤ r.toInt ∧ r.toInt ≤ 1) ∧ ((r.toInt = 1 ∧ bt (V 24 (Int32.toNatClampNeg p0)) (Int32.toNatClampNeg p1) = true) ∨ (r.toInt = 0 ∧ bt (V 24 (Int32.toNatClampNeg p0)) (Int32.toNatClampNeg p1) = false))) (fun _ t => gq D A (xw ad kk V L Z) (xty kk Z) t) A
set_option maxHeartbeats 4000000 in
set_option maxRecDepth 100000 in
theorem x_isSpoiled9 (l : Launch) (D : va_G) (ks : KS) (sz : Nat) (ad : Nat → Nat) (kk : Nat → ClassId) (V : Vf) (L : Lf) (Z : XZ) (p0 : Int32) (p1 : Int32) (hMV : rgd bX V) (rg_p0 : 0 ≤ p0.toInt ∧ p0.toInt ≤ 39) (sp0 : 0 ≤ p1.toInt) (sp1 : p1.toInt ≤ 23)  : Met l yX8_isSpoiled (Cond.code yX8_isSpoiled cX8_isSpoiled 3 (some .boolean) :: GW) r_x_isSpoiled9 (va_Pc [.ref (ad 3), .int p0, .int p1] (gp D ks (xw ad kk V L Z) (xty kk Z) sz)) (q_x_isSpoiled9 D ks ad kk V L Z p0 p1 (va_A (xw ad kk V L Z) sz)) 0 0 (va_A (xw ad kk V L Z) sz) := by
  refine g_met (q_x_isSpoiled9 D ks ad kk V L Z p0 p1) (by decide) (Nat.le_of_ble_eq_true rfl) ?_
  intro p e s m below meth c A ls H locs hx hb hr hml hown hg hlocks hin hnw hgk hP hK hD hS hA hl
  replace hown : s.vm.findClass RX8 = some m.cls := hown
  replace hl : lv_has ls 3 [(0, .ref (ad 3)), (1, .int p0), (2, .int p1)] := hl
  replace hP : va_P D vwCl (xw ad kk V L Z) H := hP
  replace hD : va_D A (xw ad kk V L Z) := hD
  replace hK : va_K D vwCl (xty kk Z) s := hK
  refine lv_aload_n hx hb dX8_isSpoiled_0 rfl (lv_at hl 0 rfl) ?_
  refine va_get (D := D) (ci := 8) (v := .ref (ad 21)) (fs := (xfStock ad V L Z)) (C := RX8) (T := TX8) (N := 16) hx hb hg inX8 hown hK hP 3 xgStock rfl 3 (by decide) (hg _ w377) (fun _ h9 => h9) rfl dX8_isSpoiled_1 ?_
  refine lv_iload_n hx hb dX8_isSpoiled_4 rfl (lv_at hl 1 rfl) ?_
  refine va_iald (D := D) (i := p0) hx hb hK hP 21 14 rfl rfl (i_in (a := p0.toInt) rfl (by (first | exact om_b30bbaedcaa6 rg_p0 | omega))) dX8_isSpoiled_5 ?_
  refine lv_iload_n hx hb dX8_isSpoiled_6 rfl (lv_at hl 2 rfl) ?_
  refine lv_ishr hx hb dX8_isSpoiled_7 ?_
  refine lv_topi (fun z1 ez1 => ?_)
  refine lv_iconst (v := 1) hx hb dX8_isSpoiled_8 (by decide) ?_
  refine lv_iand hx hb dX8_isSpoiled_9 ?_
  refine lv_topi (fun z2 ez2 => ?_)
  have hz2 : 0 ≤ z2.toInt ∧ z2.toInt ≤ 1 := and_m ez2 (by decide)
  have kt9 := i_clamp (x := p1) rfl (by (first | exact om_33d73edc3e0b sp0 sp1 | omega))
  have lb9 : z2.toInt = 0 ↔ bt (V 24 (Int32.toNatClampNeg p0)) (Int32.toNatClampNeg p1) = false := lb_get ez1 ez2 (show p1.toInt = ((Int32.toNatClampNeg p1 : Nat) : Int) from by (first | exact om_ba0da957824a kt9 | omega)) (by (first | exact om_599223081df0 sp0 sp1 kt9 | omega))
  refine lv_if_eq (tgt := 17) hx hb dX8_isSpoiled_10 (by decide) (fun c3 => ?_) (fun c3 => ?_)
  · skip
    have f4 : z2.toInt = 0 := b_eq rfl (by decide) c3
    refine lv_iconst (v := 0) hx hb dX8_isSpoiled_17 (by decide) ?_
    exact W.zret (v := 0) hx hb hr rfl (fun t ht hW => ⟨⟨0, (), rfl, ⟨(by decide), (Or.inr ⟨rfl, lb9.mp (by (first | exact om_b66ba74381d5 f4 | omega))⟩)⟩, by rw [ht]; exact hP, va_K.moved hW.alike hK, hD⟩, hS.F ht⟩) hS.2.2 dX8_isSpoiled_18
  · skip
    have f5 : z2.toInt ≠ 0 := b_neq rfl (by decide) c3
    refine lv_iconst (v := 1) hx hb dX8_isSpoiled_13 (by decide) ?_
    refine lv_goto (tgt := 18) hx hb dX8_isSpoiled_14 (by decide) ?_
    exact W.zret (v := 1) hx hb hr rfl (fun t ht hW => ⟨⟨1, (), rfl, ⟨(by decide), (Or.inl ⟨rfl, by cases e9 : bt (V 24 (Int32.toNatClampNeg p0)) (Int32.toNatClampNeg p1); exact absurd (lb9.mpr e9) (by (first | exact om_15fb5121b24d f5 | omega)); rfl⟩)⟩, by rw [ht]; exact hP, va_K.moved hW.alike hK, hD⟩, hS.F ht⟩) hS.2.2 dX8_isSpoiled_18
abbrev r_x_bhas9 : Room := { frames := 0, cells := 0, slots := 0, locals := 0 }
abbrev q_x_bhas9 (D : va_G) (ks : KS) (ad : Nat → Nat) (kk : Nat → ClassId) (V : Vf) (L : Lf) (Z : XZ) (p0 : Int32) (b : Nat) (A : Nat → Prop) : Array Value → State → Outcome → State → Prop := va_Qi (fun (r : Int32) (_ : Unit) => (0 ≤ r.toInt ∧ r.toInt ≤ 1) ∧ (Imp (r.toInt = 1) (0 ≤ p0.toInt ∧ p0.toInt < (V 43 (5 * b + 2)).toInt)) ∧ ((r.toInt = 1 ∧ 0 ≤ p0.toInt ∧ p0.toInt < (V 43 (5 * b + 2)).toInt) ∨ (r.toInt = 0 ∧ (p0.toInt < 0 ∨ (V 43 (5 * b + 2)).toInt ≤ p0.toInt)))) (fun _ t => gq D A (xw ad kk V L Z) (xty kk Z) t) A
set_option maxHeartbeats 4000000 in
set_option maxRecDepth 100000 in
theorem x_bhas9 (l : Launch) (D : va_G) (ks : KS) (sz : Nat) (ad : Nat → Nat) (kk : Nat → ClassId) (V : Vf) (L : Lf) (Z : XZ) (p0 : Int32) (b : Nat) (hMV : rgd bX V) (hb2 : b < 2)  : Met l yX0_has (Cond.code yX0_has cX0_has 2 (some .boolean) :: GW) r_x_bhas9 (va_Pc [.ref (ad (38 + b)), .int p0] (gp D ks (xw ad kk V L Z) (xty kk Z) sz)) (q_x_bhas9 D ks ad kk V L Z p0 b (va_A (xw ad kk V L Z) sz)) 0 0 (va_A (xw ad kk V L Z) sz) := by
  refine g_met (q_x_bhas9 D ks ad kk V L Z p0 b) (by decide) (Nat.le_of_ble_eq_true rfl) ?_
  intro p e s m below meth c A ls H locs hx hb hr hml hown hg hlocks hin hnw hgk hP hK hD hS hA hl
  replace hown : s.vm.findClass RX0 = some m.cls := hown
  replace hl : lv_has ls 2 [(0, .ref (ad (38 + b))), (1, .int p0)] := hl
  replace hP : va_P D vwCl (xw ad kk V L Z) H := hP
  replace hD : va_D A (xw ad kk V L Z) := hD
  replace hK : va_K D vwCl (xty kk Z) s := hK
  refine lv_iload_n hx hb dX0_has_0 rfl (lv_at hl 1 rfl) ?_
  refine lv_if_lt (tgt := 19) hx hb dX0_has_1 (by decide) (fun c1 => ?_) (fun c1 => ?_)
  · skip
    have f2 : p0.toInt < 0 := b_lt rfl (by decide) c1
    refine lv_iconst (v := 0) hx hb dX0_has_19 (by decide) ?_
    have r3 : 0 ≤ ((V 43 (5 * b + 2))).toInt ∧ ((V 43 (5 * b + 2))).toInt ≤ ((xcap (5 * b + 2) : Nat) : Int) := hMV 43 (5 * b + 2)
    have r4 : xcap (5 * b + 2) = 24 := xcap_2
    exact W.zret (v := 0) hx hb hr rfl (fun t ht hW => ⟨⟨0, (), rfl, ⟨(by decide), (Imp.mk (fun hp => absurd hp (by decide))), (show (0 = 1 ∧ 0 ≤ p0.toInt ∧ p0.toInt < (V 43 (5 * b + 2)).toInt) ∨ (0 = 0 ∧ (p0.toInt < 0 ∨ (V 43 (5 * b + 2)).toInt ≤ p0.toInt)) from by (first | exact om_7064ee5a61fe f2 | omega))⟩, by rw [ht]; exact hP, va_K.moved hW.alike hK, hD⟩, hS.F ht⟩) hS.2.2 dX0_has_20
  · skip
    have f5 : 0 ≤ p0.toInt := b_nlt rfl (by decide) c1
    refine lv_iload_n hx hb dX0_has_4 rfl (lv_at hl 1 rfl) ?_
    refine lv_aload_n hx hb dX0_has_5 rfl (lv_at hl 0 rfl) ?_
    refine va_get (D := D) (ci := 0) (v := .ref (ad (40 + (5 * b + 2)))) (fs := (xfBook ad V b)) (C := RX0) (T := TX0) (N := 13) hx hb hg inX0 hown hK hP (38 + b) (xgBook hb2) rfl 2 (by decide) (hg _ w599) (fun _ h9 => h9) rfl dX0_has_6 ?_
    have il6 : (5 * b + 2) < 10 := by (first | exact om_1478e52fbf50 hb2 | omega)
    refine va_getN (D := D) (ci := 6) (v := .int (V 43 (5 * b + 2))) (fs := (xfNames ad V (5 * b + 2))) (C := RX6) (T := TX6) (N := 2) hx hb hg inX6 hown hK hP (40 + (5 * b + 2)) (xgNames il6) rfl 1 (by decide) (hnw.use 481 n481 rfl) (fun _ h9 => h9) rfl dX0_has_9 ?_
    have r7 : 0 ≤ ((V 43 (5 * b + 2))).toInt ∧ ((V 43 (5 * b + 2))).toInt ≤ ((xcap (5 * b + 2) : Nat) : Int) := hMV 43 (5 * b + 2)
    have r8 : xcap (5 * b + 2) = 24 := xcap_2
    refine lv_icmp_ge (tgt := 19) hx hb dX0_has_12 (by decide) (fun c9 => ?_) (fun c9 => ?_)
    · skip
      have f10 : ((V 43 (5 * b + 2))).toInt ≤ p0.toInt := b_le rfl rfl c9
      refine lv_iconst (v := 0) hx hb dX0_has_19 (by decide) ?_
      exact W.zret (v := 0) hx hb hr rfl (fun t ht hW => ⟨⟨0, (), rfl, ⟨(by decide), (Imp.mk (fun hp => absurd hp (by decide))), (show (0 = 1 ∧ 0 ≤ p0.toInt ∧ p0.toInt < (V 43 (5 * b + 2)).toInt) ∨ (0 = 0 ∧ (p0.toInt < 0 ∨ (V 43 (5 * b + 2)).toInt ≤ p0.toInt)) from by (first | exact om_e9c8d223b899 f10 | omega))⟩, by rw [ht]; exact hP, va_K.moved hW.alike hK, hD⟩, hS.F ht⟩) hS.2.2 dX0_has_20
    · skip
      have f11 : p0.toInt < ((V 43 (5 * b + 2))).toInt := b_nle rfl rfl c9
      refine lv_iconst (v := 1) hx hb dX0_has_15 (by decide) ?_
      refine lv_goto (tgt := 20) hx hb dX0_has_16 (by decide) ?_
      exact W.zret (v := 1) hx hb hr rfl (fun t ht hW => ⟨⟨1, (), rfl, ⟨(by decide), (Imp.mk (fun _ => (show 0 ≤ p0.toInt ∧ p0.toInt < (V 43 (5 * b + 2)).toInt from by (first | exact om_a1ce77cc111f f5 f11 | omega)))), (show (1 = 1 ∧ 0 ≤ p0.toInt ∧ p0.toInt < (V 43 (5 * b + 2)).toInt) ∨ (1 = 0 ∧ (p0.toInt < 0 ∨ (V 43 (5 * b + 2)).toInt ≤ p0.toInt)) from by (first | exact om_8c1948e1ff74 f5 f11 | omega))⟩, by rw [ht]; exact hP, va_K.moved hW.alike hK, hD⟩, hS.F ht⟩) hS.2.2 dX0_has_20
abbrev r_x_beginObject9 : Room := { frames := 2, cells := 0, slots := 0, locals := 46 }
abbrev q_x_beginObject9 (D : va_G) (ks : KS) (ad : Nat → Nat) (kk : Nat → ClassId) (V : Vf) (L : Lf) (Z : XZ) (p0 : Int32) (p1 : Int32) (p2 : Int32) (A : Nat → Prop) : Array Value → State → Outcome → State → Prop := va_Qi (fun (r : Int32) (u : Vf × Lf) => rgd bX u.1 ∧ agr [(3, 13)] [25, 26, 27, 28, 30] V u.1 ∧ u.2 = L ∧ ((-1) ≤ r.toInt ∧ r.toInt ≤ 299) ∧ (SL u.1 Z) ∧ (Imp (0 ≤ r.toInt) (∀ q : Nat, 8 * Int32.toNatClampNeg (V 3 13) ≤ q → q < 8 * Int32.toNatClampNeg (V 3 13) + 8 → (u.1 30 q).toInt = -1)) ∧ (Imp (0 ≤ r.toInt) (∀ q : Nat, ¬ (8 * Int32.toNatClampNeg (V 3 13) ≤ q ∧ q < 8 * Int32.toNatClampNeg (V 3 13) + 8) → u.1 30 q = V 30 q)) ∧ (Imp (0 ≤ r.toInt) (∀ q : Nat, ¬ q = Int32.toNatClampNeg (V 3 13) → u.1 26 q = V 26 q)) ∧ (Imp (0 ≤ r.toInt) (r.toInt = (V 3 13).toInt ∧ (u.1 3 13).toInt = (V 3 13).toInt + 1)) ∧ (Imp (r.toInt = -1) ((u.1 3 13).toInt = (V 3 13).toInt)) ∧ (Imp (0 ≤ r.toInt) (u.1 26 (Int32.toNatClampNeg (V 3 13)) = p0)) ∧ (Imp (r.toInt = -1) (u.1 = V)) ∧ (Imp (0 ≤ r.toInt) (∀ k : Nat, k < 960 → u.1 25 k = V 25 k ∨ ((u.1 25 k).toInt = r.toInt ∧ p0.toInt = ((k % 24 : Nat) : Int)))) ∧ (Imp (0 ≤ r.toInt) (u.1 27 (Int32.toNatClampNeg (V 3 13)) = p1 ∧ (u.1 28 (Int32.toNatClampNeg (V 3 13))).toInt = 0 ∧ ∀ q : Nat, ¬ q = (Int32.toNatClampNeg (V 3 13)) → u.1 27 q = V 27 q ∧ u.1 28 q = V 28 q)) ∧ (Imp (0 ≤ r.toInt) ((p2.toInt ≠ 0 ∧ u.1 25 (24 * Int32.toNatClampNeg p1 + Int32.toNatClampNeg p0) = r ∧ ∀ k : Nat, k ≠ (24 * Int32.toNatClampNeg p1 + Int32.toNatClampNeg p0) → u.1 25 k = V 25 k) ∨ (p2.toInt = 0 ∧ ∀ k : Nat, u.1 25 k = V 25 k))) ∧ ((r.toInt = -1 ∧ 300 ≤ (V 3 13).toInt) ∨ (0 ≤ r.toInt ∧ (V 3 13).toInt < 300))) (fun u t => gq D A (xw ad kk u.1 u.2 Z) (xty kk Z) t) A
set_option maxHeartbeats 4000000 in
set_option maxRecDepth 100000 in
theorem x_beginObject9 (l : Launch) (D : va_G) (ks : KS) (sz : Nat) (ad : Nat → Nat) (kk : Nat → ClassId) (V : Vf) (L : Lf) (Z : XZ) (p0 : Int32) (p1 : Int32) (p2 : Int32) (hMV : rgd bX V) (rg_p0 : 0 ≤ p0.toInt ∧ p0.toInt ≤ 23) (rg_p1 : 0 ≤ p1.toInt ∧ p1.toInt ≤ 39) (rg_p2 : 0 ≤ p2.toInt ∧ p2.toInt ≤ 1) (sl : SL V Z)  : Met l yX8_beginObject (Cond.code yX8_beginObject cX8_beginObject 5 (some .int) :: GW) r_x_beginObject9 (va_Pc [.ref (ad 3), .int p0, .int p1, .int p2] (gp D ks (xw ad kk V L Z) (xty kk Z) sz)) (q_x_beginObject9 D ks ad kk V L Z p0 p1 p2 (va_A (xw ad kk V L Z) sz)) 0 0 (va_A (xw ad kk V L Z) sz) := by
  refine g_met (q_x_beginObject9 D ks ad kk V L Z p0 p1 p2) (by decide) (Nat.le_of_ble_eq_true rfl) ?_
  intro p e s m below meth c A ls H locs hx hb hr hml hown hg hlocks hin hnw hgk hP hK hD hS hA hl
  replace hown : s.vm.findClass RX8 = some m.cls := hown
  replace hl : lv_has ls 5 [(0, .ref (ad 3)), (1, .int p0), (2, .int p1), (3, .int p2)] := hl
  replace hP : va_P D vwCl (xw ad kk V L Z) H := hP
  replace hD : va_D A (xw ad kk V L Z) := hD
  replace hK : va_K D vwCl (xty kk Z) s := hK
  have agV : agr [(3, 13)] [25, 26, 27, 28, 30] V V := agr.rf
  refine lv_aload_n hx hb dX8_beginObject_0 rfl (lv_at hl 0 rfl) ?_
  refine va_get (D := D) (ci := 8) (v := .int (V 3 13)) (fs := (xfStock ad V L Z)) (C := RX8) (T := TX8) (N := 16) hx hb hg inX8 hown hK hP 3 xgStock rfl 13 (by decide) (hg _ w391) (fun _ h9 => h9) rfl dX8_beginObject_1 ?_
  have r1 : 0 ≤ ((V 3 13)).toInt ∧ ((V 3 13)).toInt ≤ 300 := hMV 3 13
  refine lv_sipush (v := 300) hx hb dX8_beginObject_4 (by decide) ?_
  refine lv_icmp_lt (tgt := 12) hx hb dX8_beginObject_7 (by decide) (fun c2 => ?_) (fun c2 => ?_)
  · skip
    have f3 : ((V 3 13)).toInt < 300 := b_lt rfl (by decide) c2
    refine lv_aload_n hx hb dX8_beginObject_12 rfl (lv_at hl 0 rfl) ?_
    refine lv_dup hx hb dX8_beginObject_13 rfl ?_
    refine va_get (D := D) (ci := 8) (v := .int (V 3 13)) (fs := (xfStock ad V L Z)) (C := RX8) (T := TX8) (N := 16) hx hb hg inX8 hown hK hP 3 xgStock rfl 13 (by decide) (hg _ w391) (fun _ h9 => h9) rfl dX8_beginObject_14 ?_
    refine lv_dup_x1 hx hb dX8_beginObject_17 rfl rfl ?_
    refine lv_iconst (v := 1) hx hb dX8_beginObject_18 (by decide) ?_
    refine lv_iadd hx hb dX8_beginObject_19 ?_
    refine lv_topi (fun z4 ez4 => ?_)
    have hz4 : z4.toInt = ((V 3 13)).toInt + 1 := i_add ez4 rfl (by decide) (by (first | exact om_f3d93f491ef3 r1 f3 | omega))
    refine va_put (D := D) (ci := 8) (v := .int z4) (ty := tyX8 13) (fs := (xfStock ad V L Z)) (C := RX8) (T := TX8) (N := 16) hx hb hg inX8 tyX8 tyX8_ok nmX8 hown hK hP hD hS 3 xgStock rfl 13 (by decide) (hg _ w391) (fun _ h9 => h9) rfl (tyX8_ok 13 (by decide)) rfl rfl (Nat.le_of_ble_eq_true rfl) dX8_beginObject_20 (fun H locs hP hD hS => ?_)
    obtain ⟨V5, hV5⟩ : ∃ z, z = up2 V 3 13 z4 := ⟨_, rfl⟩
    have ew6 : (xw ad kk V L Z).set 3 ((ad 3), .inr (8, (xfStock ad V L Z).set 13 (.int z4))) = xw ad kk V5 L Z := by rw [hV5]; exact xw_ss (by decide) rfl (xb_si (by decide))
    have hP : va_P D vwCl (xw ad kk V5 L Z) H := by rw [← ew6]; exact hP
    have hD : va_D A (xw ad kk V5 L Z) := by rw [← ew6]; exact hD
    have hMV5 : rgd bX V5 := hMV.put hV5 (show 0 ≤ z4.toInt ∧ z4.toInt ≤ 300 from by first | exact om_a22843df7aea r1 f3 hz4 | first | omega | ((try (have i_sl := Imp.go sl (by omega))); omega))
    have agV5 : agr [(3, 13)] [25, 26, 27, 28, 30] V V5 := agV.up hV5 rfl
    refine lv_istore (lv' := [(4, .int (V 3 13)), (0, .ref (ad 3)), (1, .int p0), (2, .int p1), (3, .int p2)]) hx hb dX8_beginObject_23 hl (by decide) rfl (fun ls hl => ?_)
    refine lv_aload_n hx hb dX8_beginObject_25 rfl (lv_at hl 1 rfl) ?_
    refine va_get (D := D) (ci := 8) (v := .ref (ad 23)) (fs := (xfStock ad V5 L Z)) (C := RX8) (T := TX8) (N := 16) hx hb hg inX8 hown hK hP 3 xgStock rfl 5 (by decide) (hg _ w379) (fun _ h9 => h9) rfl dX8_beginObject_26 ?_
    refine lv_iload hx hb dX8_beginObject_29 (lv_at hl 0 rfl) ?_
    refine lv_iload_n hx hb dX8_beginObject_31 rfl (lv_at hl 2 rfl) ?_
    refine va_iast (D := D) (i := (V 3 13)) (x := p0) hx hb hK hP hD hS 23 16 rfl rfl (i_in (a := ((V 3 13)).toInt) rfl (by first | exact om_e3c1c78b4ed6 r1 f3 hz4 | first | omega | ((try (have i_sl := Imp.go sl (by omega))); omega))) dX8_beginObject_32 (fun H locs hP hD hS => ?_)
    obtain ⟨V7, hV7⟩ : ∃ z, z = up2 V5 26 (Int32.toNatClampNeg (V 3 13)) p0 := ⟨_, rfl⟩
    have ew8 : (xw ad kk V5 L Z).set 23 ((ad 23), .inl ((kk 23), 300, .inl (upd (V5 26) (Int32.toNatClampNeg (V 3 13)) p0))) = xw ad kk V7 L Z := by rw [hV7]; exact xw_ss (by decide) rfl (xb_si (by decide))
    have hP : va_P D vwCl (xw ad kk V7 L Z) H := by rw [← ew8]; exact hP
    have hD : va_D A (xw ad kk V7 L Z) := by rw [← ew8]; exact hD
    have hMV7 : rgd bX V7 := hMV5.put hV7 (show 0 ≤ p0.toInt ∧ p0.toInt ≤ 23 from by first | exact om_633243927a9e rg_p0 | first | omega | ((try (have i_sl := Imp.go sl (by omega))); omega))
    have agV7 : agr [(3, 13)] [25, 26, 27, 28, 30] V V7 := agV5.up hV7 rfl
    refine lv_aload_n hx hb dX8_beginObject_33 rfl (lv_at hl 1 rfl) ?_
    refine va_get (D := D) (ci := 8) (v := .ref (ad 24)) (fs := (xfStock ad V7 L Z)) (C := RX8) (T := TX8) (N := 16) hx hb hg inX8 hown hK hP 3 xgStock rfl 6 (by decide) (hg _ w381) (fun _ h9 => h9) rfl dX8_beginObject_34 ?_
    refine lv_iload hx hb dX8_beginObject_37 (lv_at hl 0 rfl) ?_
    refine lv_iload_n hx hb dX8_beginObject_39 rfl (lv_at hl 3 rfl) ?_
    refine va_iast (D := D) (i := (V 3 13)) (x := p1) hx hb hK hP hD hS 24 17 rfl rfl (i_in (a := ((V 3 13)).toInt) rfl (by first | exact om_e3c1c78b4ed6 r1 f3 hz4 | first | omega | ((try (have i_sl := Imp.go sl (by omega))); omega))) dX8_beginObject_40 (fun H locs hP hD hS => ?_)
    obtain ⟨V9, hV9⟩ : ∃ z, z = up2 V7 27 (Int32.toNatClampNeg (V 3 13)) p1 := ⟨_, rfl⟩
    have ew10 : (xw ad kk V7 L Z).set 24 ((ad 24), .inl ((kk 24), 300, .inl (upd (V7 27) (Int32.toNatClampNeg (V 3 13)) p1))) = xw ad kk V9 L Z := by rw [hV9]; exact xw_ss (by decide) rfl (xb_si (by decide))
    have hP : va_P D vwCl (xw ad kk V9 L Z) H := by rw [← ew10]; exact hP
    have hD : va_D A (xw ad kk V9 L Z) := by rw [← ew10]; exact hD
    have hMV9 : rgd bX V9 := hMV7.put hV9 (show 0 ≤ p1.toInt ∧ p1.toInt ≤ 39 from by first | exact om_647482f06eaf rg_p1 | first | omega | ((try (have i_sl := Imp.go sl (by omega))); omega))
    have agV9 : agr [(3, 13)] [25, 26, 27, 28, 30] V V9 := agV7.up hV9 rfl
    refine lv_aload_n hx hb dX8_beginObject_41 rfl (lv_at hl 1 rfl) ?_
    refine va_get (D := D) (ci := 8) (v := .ref (ad 25)) (fs := (xfStock ad V9 L Z)) (C := RX8) (T := TX8) (N := 16) hx hb hg inX8 hown hK hP 3 xgStock rfl 7 (by decide) (hg _ w384) (fun _ h9 => h9) rfl dX8_beginObject_42 ?_
    refine lv_iload hx hb dX8_beginObject_45 (lv_at hl 0 rfl) ?_
    refine lv_iconst (v := 0) hx hb dX8_beginObject_47 (by decide) ?_
    refine va_iast (D := D) (i := (V 3 13)) (x := 0) hx hb hK hP hD hS 25 18 rfl rfl (i_in (a := ((V 3 13)).toInt) rfl (by first | exact om_e3c1c78b4ed6 r1 f3 hz4 | first | omega | ((try (have i_sl := Imp.go sl (by omega))); omega))) dX8_beginObject_48 (fun H locs hP hD hS => ?_)
    obtain ⟨V11, hV11⟩ : ∃ z, z = up2 V9 28 (Int32.toNatClampNeg (V 3 13)) 0 := ⟨_, rfl⟩
    have ew12 : (xw ad kk V9 L Z).set 25 ((ad 25), .inl ((kk 25), 300, .inl (upd (V9 28) (Int32.toNatClampNeg (V 3 13)) 0))) = xw ad kk V11 L Z := by rw [hV11]; exact xw_ss (by decide) rfl (xb_si (by decide))
    have hP : va_P D vwCl (xw ad kk V11 L Z) H := by rw [← ew12]; exact hP
    have hD : va_D A (xw ad kk V11 L Z) := by rw [← ew12]; exact hD
    have hMV11 : rgd bX V11 := hMV9.put hV11 (i_full _)
    have agV11 : agr [(3, 13)] [25, 26, 27, 28, 30] V V11 := agV9.up hV11 rfl
    refine lv_aload_n hx hb dX8_beginObject_49 rfl (lv_at hl 1 rfl) ?_
    refine va_get (D := D) (ci := 8) (v := .ref (ad 27)) (fs := (xfStock ad V11 L Z)) (C := RX8) (T := TX8) (N := 16) hx hb hg inX8 hown hK hP 3 xgStock rfl 9 (by decide) (hg _ w387) (fun _ h9 => h9) rfl dX8_beginObject_50 ?_
    refine lv_iload hx hb dX8_beginObject_53 (lv_at hl 0 rfl) ?_
    refine lv_bipush (v := 8) hx hb dX8_beginObject_55 (by decide) ?_
    refine lv_imul hx hb dX8_beginObject_57 ?_
    refine lv_topi (fun z13 ez13 => ?_)
    have hz13 : z13.toInt = ((V 3 13)).toInt * 8 := i_mul ez13 rfl (by decide) (by (first | exact om_a24d7cd77781 r1 f3 hz4 | omega))
    refine lv_iload hx hb dX8_beginObject_58 (lv_at hl 0 rfl) ?_
    refine lv_bipush (v := 8) hx hb dX8_beginObject_60 (by decide) ?_
    refine lv_imul hx hb dX8_beginObject_62 ?_
    refine lv_topi (fun z14 ez14 => ?_)
    have hz14 : z14.toInt = ((V 3 13)).toInt * 8 := i_mul ez14 rfl (by decide) (by (first | exact om_a24d7cd77781 r1 f3 hz4 | omega))
    refine lv_bipush (v := 8) hx hb dX8_beginObject_63 (by decide) ?_
    refine lv_iadd hx hb dX8_beginObject_65 ?_
    refine lv_topi (fun z15 ez15 => ?_)
    have hz15 : z15.toInt = z14.toInt + 8 := i_add ez15 rfl (by decide) (by (first | exact om_834480c8d41d r1 f3 hz4 hz14 | omega))
    refine lv_iconst (v := (-1)) hx hb dX8_beginObject_66 (by decide) ?_
    have r16 : Int32.toInt (-1) = (-1) := by decide
    refine gA_void (gA_runS (As := [.ref (ad 27), .int z13, .int z15, .int (-1)]) (rest := []) hx hb hml hown hg hP hD hK hS hA hnw hgk (x_fillChains l D ks H.size ad kk V11 L Z z13 z15 (-1) hMV11 (by first | exact om_abb04dd29600 r1 f3 hz4 hz13 | first | omega | ((try (have i_sl := Imp.go sl (by omega))); omega)) (by first | exact om_11ff0ab22b53 r1 f3 hz4 hz14 hz15 | first | omega | ((try (have i_sl := Imp.go sl (by omega))); omega)) (by decide) (show z13.toInt ≤ z15.toInt from by first | exact om_7833ad912d5b hz4 hz13 hz14 hz15 | first | omega | ((try (have i_sl := Imp.go sl (by omega))); omega))) w1290 w1291 w165 w1292 hdS_yJ7_fill_fda19 ⟨Nat.le_of_ble_eq_true rfl, Nat.le_of_ble_eq_true rfl⟩ rfl hl.1 rfl (Nat.le_of_ble_eq_true rfl) dX8_beginObject_67 ⟨Nat.le_of_ble_eq_true rfl, Nat.le_of_ble_eq_true rfl⟩) hP hD hK hS hA (fun u18 H locs w19 hP hD hK hS => ?_)
    obtain ⟨V22, L23⟩ := u18
    obtain ⟨hMV22, ajV22, axL23, t20, t21⟩ := w19
    have axL23 : L = L23 := Eq.symm axL23
    subst axL23
    replace hP : va_P D vwCl (xw ad kk V22 L Z) H := hP
    replace hD : va_D A (xw ad kk V22 L Z) := hD
    replace hMV22 : rgd bX V22 := hMV22
    replace ajV22 : agr [] [30] V11 V22 := ajV22
    have agV22 : agr [(3, 13)] [25, 26, 27, 28, 30] V V22 := agV11.tr ajV22 (by decide) (by decide)
    replace t20 : (∀ q : Nat, z13.toInt ≤ (q : Int) → (q : Int) < z15.toInt → V22 30 (q) = (-1)) := t20
    replace t21 : (∀ q : Nat, ¬ (Int32.toNatClampNeg z13 ≤ q ∧ q < Int32.toNatClampNeg z15) → V22 30 q = V11 30 q) := t21
    refine lv_iload_n hx hb dX8_beginObject_70 rfl (lv_at hl 4 rfl) ?_
    refine lv_if_eq (tgt := 87) hx hb dX8_beginObject_71 (by decide) (fun c24 => ?_) (fun c24 => ?_)
    · skip
      have f25 : p2.toInt = 0 := b_eq rfl (by decide) c24
      refine lv_iload hx hb dX8_beginObject_87 (lv_at hl 0 rfl) ?_
      have pq26 : (V22 3 13).toInt = z4.toInt := congrArg Int32.toInt ((ajV22 3 13 rfl).trans ((up2_o hV11 (by decide)).trans ((up2_o hV9 (by decide)).trans ((up2_o hV7 (by decide)).trans (up2_s hV5)))))
      have ko9 := i_clamp (x := V 3 13) rfl (by (first | exact om_20f662bde2c2 r1 f3 hz4 pq26 | omega))
      have k81 := i_clamp (x := z13) rfl (by (first | exact om_dc06f4982b8d r1 f3 hz4 hz13 pq26 ko9 | omega))
      have k82 := i_clamp (x := z15) rfl (by (first | exact om_1fd5635d2700 r1 f3 hz4 hz14 hz15 pq26 ko9 | omega))
      have bn : ∀ q : Nat, 8 * Int32.toNatClampNeg (V 3 13) ≤ q → q < 8 * Int32.toNatClampNeg (V 3 13) + 8 → (V22 30 q).toInt = -1 := fun q h1 h2 => by rw [(show agr [] [] V22 V22 from agr.rf) 30 _ rfl, t20 q (by (first | exact om_0de4e1263389 hz4 hz13 pq26 ko9 h1 h2 | omega)) (by (first | exact om_220dd93afa93 hz4 hz14 hz15 pq26 ko9 h1 h2 | omega))]; decide
      have be : ∀ q : Nat, ¬ (8 * Int32.toNatClampNeg (V 3 13) ≤ q ∧ q < 8 * Int32.toNatClampNeg (V 3 13) + 8) → V22 30 q = V 30 q := fun q hq => (((show agr [] [] V22 V22 from agr.rf) 30 _ rfl).trans (t21 q (by (first | exact om_64c744c320d3 hz4 hz13 hz14 hz15 pq26 ko9 k81 k82 hq | omega)))).trans ((show agr [(3, 13)] [26, 27, 28] V V11 from (agr.up (agr.up (agr.up (agr.up agr.rf hV5 rfl) hV7 rfl) hV9 rfl) hV11 rfl)) 30 _ rfl)
      have rp27 : SL V22 Z := SL.new (o := Int32.toNatClampNeg (V 3 13)) sl agV22 rfl (fun _ => rfl) (by (first | exact om_5bdda850f962 hz4 pq26 ko9 | omega)) (by (first | exact om_689eeacb6d53 hz4 pq26 | omega)) bn be (hMV 3 15).1
      have rp28 : Imp (0 ≤ ((V 3 13)).toInt) (∀ q : Nat, ¬ q = Int32.toNatClampNeg (V 3 13) → V22 26 q = V 26 q) := Imp.mk (fun _ q hq => (((((ajV22 26 _ rfl).trans (up2_o hV11 (by decide))).trans (up2_o hV9 (by decide))).trans (up2_k hV7 hq)).trans (up2_o hV5 (by decide))))
      exact W.iret (v := (V 3 13)) hx hb hr (fun t ht hW => ⟨⟨(V 3 13), (V22, L), rfl, ⟨hMV22, agV22, rfl, (show (-1) ≤ ((V 3 13)).toInt ∧ ((V 3 13)).toInt ≤ 299 from by first | exact om_98cbe595f573 r1 f3 hz4 pq26 ko9 | first | omega | ((try (have i_sl := Imp.go sl (by omega))); omega)), rp27, (Imp.mk (fun _ => bn)), (Imp.mk (fun _ => be)), rp28, (Imp.mk (fun hp => have hp : 0 ≤ ((V 3 13)).toInt := hp; (show ((V 3 13)).toInt = (V 3 13).toInt ∧ (V22 3 13).toInt = (V 3 13).toInt + 1 from by first | exact om_973282c118df hz4 pq26 | first | omega | ((try (have i_sl := Imp.go sl (by omega))); omega)))), (Imp.mk (fun hp => have hp : ((V 3 13)).toInt = -1 := hp; (show (V22 3 13).toInt = (V 3 13).toInt from by first | exact om_f12026a83bee r1 f3 hz4 pq26 ko9 hp | first | omega | ((try (have i_sl := Imp.go sl (by omega))); omega)))), (Imp.mk (fun _ => ((ajV22 26 (Int32.toNatClampNeg (V 3 13)) rfl).trans ((up2_o hV11 (by decide)).trans ((up2_o hV9 (by decide)).trans (up2_s hV7)))))), (Imp.mk (fun hp => absurd hp (by (first | exact om_b17deea3f3b9 r1 f3 hz4 pq26 ko9 hp | omega)))), (Imp.mk (fun _ k hk => Or.inl ((ajV22 25 _ rfl).trans ((up2_o hV11 (by decide)).trans ((up2_o hV9 (by decide)).trans ((up2_o hV7 (by decide)).trans (up2_o hV5 (by decide)))))))), (Imp.mk (fun _ => ⟨((ajV22 27 (Int32.toNatClampNeg (V 3 13)) rfl).trans ((up2_o hV11 (by decide)).trans (up2_s hV9))), by show (V22 28 (Int32.toNatClampNeg (V 3 13))).toInt = 0; rw [((ajV22 28 (Int32.toNatClampNeg (V 3 13)) rfl).trans (up2_s hV11))]; decide, fun q hq => ⟨((ajV22 27 q rfl).trans ((up2_o hV11 (by decide)).trans ((up2_k hV9 (by (first | exact om_2d00f31e8375 hq | omega))).trans ((up2_o hV7 (by decide)).trans (up2_o hV5 (by decide)))))), ((ajV22 28 q rfl).trans ((up2_k hV11 (by (first | exact om_2d00f31e8375 hq | omega))).trans ((up2_o hV9 (by decide)).trans ((up2_o hV7 (by decide)).trans (up2_o hV5 (by decide))))))⟩⟩)), (Imp.mk (fun _ => Or.inr ⟨by (first | exact om_b66ba74381d5 f25 | omega), fun k => ((ajV22 25 k rfl).trans ((up2_o hV11 (by decide)).trans ((up2_o hV9 (by decide)).trans ((up2_o hV7 (by decide)).trans (up2_o hV5 (by decide))))))⟩)), (show (((V 3 13)).toInt = -1 ∧ 300 ≤ (V 3 13).toInt) ∨ (0 ≤ ((V 3 13)).toInt ∧ (V 3 13).toInt < 300) from by first | exact om_f137e21d6532 r1 f3 hz4 pq26 ko9 | first | omega | ((try (have i_sl := Imp.go sl (by omega))); omega))⟩, by rw [ht]; exact hP, va_K.moved hW.alike hK, hD⟩, hS.F ht⟩) hS.2.2 dX8_beginObject_89
    · skip
      have f29 : p2.toInt ≠ 0 := b_neq rfl (by decide) c24
      refine lv_aload_n hx hb dX8_beginObject_74 rfl (lv_at hl 1 rfl) ?_
      refine va_get (D := D) (ci := 8) (v := .ref (ad 22)) (fs := (xfStock ad V22 L Z)) (C := RX8) (T := TX8) (N := 16) hx hb hg inX8 hown hK hP 3 xgStock rfl 4 (by decide) (hg _ w378) (fun _ h9 => h9) rfl dX8_beginObject_75 ?_
      refine lv_iload_n hx hb dX8_beginObject_78 rfl (lv_at hl 3 rfl) ?_
      refine lv_bipush (v := 24) hx hb dX8_beginObject_79 (by decide) ?_
      refine lv_imul hx hb dX8_beginObject_81 ?_
      refine lv_topi (fun z30 ez30 => ?_)
      have hz30 : z30.toInt = p1.toInt * 24 := i_mul ez30 rfl (by decide) (by (first | exact om_90e073766459 rg_p1 | omega))
      refine lv_iload_n hx hb dX8_beginObject_82 rfl (lv_at hl 2 rfl) ?_
      refine lv_iadd hx hb dX8_beginObject_83 ?_
      refine lv_topi (fun z31 ez31 => ?_)
      have hz31 : z31.toInt = z30.toInt + p0.toInt := i_add ez31 rfl rfl (by (first | exact om_bae05f5ca3bc rg_p0 rg_p1 hz30 | omega))
      refine lv_iload hx hb dX8_beginObject_84 (lv_at hl 0 rfl) ?_
      refine va_iast (D := D) (i := z31) (x := (V 3 13)) hx hb hK hP hD hS 22 15 rfl rfl (i_in (a := z31.toInt) rfl (by first | exact om_6614635081bd rg_p0 rg_p1 hz30 hz31 | first | omega | ((try (have i_sl := Imp.go sl (by omega))); omega))) dX8_beginObject_86 (fun H locs hP hD hS => ?_)
      obtain ⟨V32, hV32⟩ : ∃ z, z = up2 V22 25 (Int32.toNatClampNeg z31) (V 3 13) := ⟨_, rfl⟩
      have ew33 : (xw ad kk V22 L Z).set 22 ((ad 22), .inl ((kk 22), 960, .inl (upd (V22 25) (Int32.toNatClampNeg z31) (V 3 13)))) = xw ad kk V32 L Z := by rw [hV32]; exact xw_ss (by decide) rfl (xb_si (by decide))
      have hP : va_P D vwCl (xw ad kk V32 L Z) H := by rw [← ew33]; exact hP
      have hD : va_D A (xw ad kk V32 L Z) := by rw [← ew33]; exact hD
      have hMV32 : rgd bX V32 := hMV22.put hV32 (show (-1) ≤ ((V 3 13)).toInt ∧ ((V 3 13)).toInt ≤ 299 from by first | exact om_81cf64116062 r1 f3 hz4 | first | omega | ((try (have i_sl := Imp.go sl (by omega))); omega))
      have agV32 : agr [(3, 13)] [25, 26, 27, 28, 30] V V32 := agV22.up hV32 rfl
      refine lv_iload hx hb dX8_beginObject_87 (lv_at hl 0 rfl) ?_
      have pq34 : (V32 3 13).toInt = z4.toInt := congrArg Int32.toInt ((up2_o hV32 (by decide)).trans ((ajV22 3 13 rfl).trans ((up2_o hV11 (by decide)).trans ((up2_o hV9 (by decide)).trans ((up2_o hV7 (by decide)).trans (up2_s hV5))))))
      have ko9 := i_clamp (x := V 3 13) rfl (by (first | exact om_20f662bde2c2 r1 f3 hz4 pq34 | omega))
      have k81 := i_clamp (x := z13) rfl (by (first | exact om_dc06f4982b8d r1 f3 hz4 hz13 pq34 ko9 | omega))
      have k82 := i_clamp (x := z15) rfl (by (first | exact om_1fd5635d2700 r1 f3 hz4 hz14 hz15 pq34 ko9 | omega))
      have bn : ∀ q : Nat, 8 * Int32.toNatClampNeg (V 3 13) ≤ q → q < 8 * Int32.toNatClampNeg (V 3 13) + 8 → (V32 30 q).toInt = -1 := fun q h1 h2 => by rw [(show agr [] [25] V22 V32 from (agr.up agr.rf hV32 rfl)) 30 _ rfl, t20 q (by (first | exact om_0de4e1263389 hz4 hz13 pq34 ko9 h1 h2 | omega)) (by (first | exact om_220dd93afa93 hz4 hz14 hz15 pq34 ko9 h1 h2 | omega))]; decide
      have be : ∀ q : Nat, ¬ (8 * Int32.toNatClampNeg (V 3 13) ≤ q ∧ q < 8 * Int32.toNatClampNeg (V 3 13) + 8) → V32 30 q = V 30 q := fun q hq => (((show agr [] [25] V22 V32 from (agr.up agr.rf hV32 rfl)) 30 _ rfl).trans (t21 q (by (first | exact om_64c744c320d3 hz4 hz13 hz14 hz15 pq34 ko9 k81 k82 hq | omega)))).trans ((show agr [(3, 13)] [26, 27, 28] V V11 from (agr.up (agr.up (agr.up (agr.up agr.rf hV5 rfl) hV7 rfl) hV9 rfl) hV11 rfl)) 30 _ rfl)
      have rp35 : SL V32 Z := SL.new (o := Int32.toNatClampNeg (V 3 13)) sl agV32 rfl (fun _ => rfl) (by (first | exact om_5bdda850f962 hz4 pq34 ko9 | omega)) (by (first | exact om_689eeacb6d53 hz4 pq34 | omega)) bn be (hMV 3 15).1
      have rp36 : Imp (0 ≤ ((V 3 13)).toInt) (∀ q : Nat, ¬ q = Int32.toNatClampNeg (V 3 13) → V32 26 q = V 26 q) := Imp.mk (fun _ q hq => ((((((up2_o hV32 (by decide)).trans (ajV22 26 _ rfl)).trans (up2_o hV11 (by decide))).trans (up2_o hV9 (by decide))).trans (up2_k hV7 hq)).trans (up2_o hV5 (by decide))))
      have kb1 := i_clamp (x := z31) rfl (by (first | exact om_ad907af50a5a rg_p0 rg_p1 hz30 hz31 | omega))
      have kb2 := i_clamp (x := p0) rfl (by (first | exact om_32ee77430d60 rg_p0 hz30 hz31 kb1 | omega))
      have kb3 := i_clamp (x := p1) rfl (by (first | exact om_8b08cc030c6f rg_p1 | omega))
      have rp37 : Imp (0 ≤ ((V 3 13)).toInt) (∀ k : Nat, k < 960 → V32 25 k = V 25 k ∨ ((V32 25 k).toInt = ((V 3 13)).toInt ∧ p0.toInt = ((k % 24 : Nat) : Int))) := Imp.mk (fun _ k hk => (Nat.decEq k (Int32.toNatClampNeg z31)).byCases (fun q => Or.inr ⟨by rw [q, (up2_s hV32)], by (first | exact om_24e2123c9d08 rg_p0 hz30 hz31 kb1 kb2 kb3 q | omega)⟩) (fun q => Or.inl ((up2_k hV32 q).trans ((ajV22 25 _ rfl).trans ((up2_o hV11 (by decide)).trans ((up2_o hV9 (by decide)).trans ((up2_o hV7 (by decide)).trans (up2_o hV5 (by decide)))))))))
      have kb9 : (Int32.toNatClampNeg z31) = 24 * Int32.toNatClampNeg p1 + Int32.toNatClampNeg p0 := by have h1 := i_clamp (x := z31) rfl (by (first | exact om_15a3008ac35b hz30 hz31 kb1 kb2 kb3 | omega)); have h2 := i_clamp (x := p0) rfl (by (first | exact om_d767bff5d2ac rg_p0 hz30 hz31 kb1 kb2 | omega)); have h3 := i_clamp (x := p1) rfl (by (first | exact om_818ec644e697 rg_p1 kb3 | omega)); (first | exact om_65aebb18b141 hz30 hz31 kb1 kb2 kb3 | omega)
      exact W.iret (v := (V 3 13)) hx hb hr (fun t ht hW => ⟨⟨(V 3 13), (V32, L), rfl, ⟨hMV32, agV32, rfl, (show (-1) ≤ ((V 3 13)).toInt ∧ ((V 3 13)).toInt ≤ 299 from by first | exact om_98cbe595f573 r1 f3 hz4 pq34 ko9 | first | omega | ((try (have i_sl := Imp.go sl (by omega))); omega)), rp35, (Imp.mk (fun _ => bn)), (Imp.mk (fun _ => be)), rp36, (Imp.mk (fun hp => have hp : 0 ≤ ((V 3 13)).toInt := hp; (show ((V 3 13)).toInt = (V 3 13).toInt ∧ (V32 3 13).toInt = (V 3 13).toInt + 1 from by first | exact om_973282c118df hz4 pq34 | first | omega | ((try (have i_sl := Imp.go sl (by omega))); omega)))), (Imp.mk (fun hp => have hp : ((V 3 13)).toInt = -1 := hp; (show (V32 3 13).toInt = (V 3 13).toInt from by first | exact om_f12026a83bee r1 f3 hz4 pq34 ko9 hp | first | omega | ((try (have i_sl := Imp.go sl (by omega))); omega)))), (Imp.mk (fun _ => ((up2_o hV32 (by decide)).trans ((ajV22 26 (Int32.toNatClampNeg (V 3 13)) rfl).trans ((up2_o hV11 (by decide)).trans ((up2_o hV9 (by decide)).trans (up2_s hV7))))))), (Imp.mk (fun hp => absurd hp (by (first | exact om_b17deea3f3b9 r1 f3 hz4 pq34 ko9 hp | omega)))), rp37, (Imp.mk (fun _ => ⟨((up2_o hV32 (by decide)).trans ((ajV22 27 (Int32.toNatClampNeg (V 3 13)) rfl).trans ((up2_o hV11 (by decide)).trans (up2_s hV9)))), by show (V32 28 (Int32.toNatClampNeg (V 3 13))).toInt = 0; rw [((up2_o hV32 (by decide)).trans ((ajV22 28 (Int32.toNatClampNeg (V 3 13)) rfl).trans (up2_s hV11)))]; decide, fun q hq => ⟨((up2_o hV32 (by decide)).trans ((ajV22 27 q rfl).trans ((up2_o hV11 (by decide)).trans ((up2_k hV9 (by (first | exact om_2d00f31e8375 hq | omega))).trans ((up2_o hV7 (by decide)).trans (up2_o hV5 (by decide))))))), ((up2_o hV32 (by decide)).trans ((ajV22 28 q rfl).trans ((up2_k hV11 (by (first | exact om_2d00f31e8375 hq | omega))).trans ((up2_o hV9 (by decide)).trans ((up2_o hV7 (by decide)).trans (up2_o hV5 (by decide)))))))⟩⟩)), (Imp.mk (fun _ => Or.inl ⟨by (first | exact om_3e6d5198723a f29 | omega), by rw [← kb9]; exact (up2_s hV32), fun k hk => ((up2_k hV32 (by (first | exact om_4326671b4ff7 hz30 hz31 kb1 kb2 kb3 hk | omega))).trans ((ajV22 25 k rfl).trans ((up2_o hV11 (by decide)).trans ((up2_o hV9 (by decide)).trans ((up2_o hV7 (by decide)).trans (up2_o hV5 (by decide)))))))⟩)), (show (((V 3 13)).toInt = -1 ∧ 300 ≤ (V 3 13).toInt) ∨ (0 ≤ ((V 3 13)).toInt ∧ (V 3 13).toInt < 300) from by first | exact om_f137e21d6532 r1 f3 hz4 pq34 ko9 | first | omega | ((try (have i_sl := Imp.go sl (by omega))); omega))⟩, by rw [ht]; exact hP, va_K.moved hW.alike hK, hD⟩, hS.F ht⟩) hS.2.2 dX8_beginObject_89
  · skip
    have f38 : 300 ≤ ((V 3 13)).toInt := b_nlt rfl (by decide) c2
    refine lv_iconst (v := (-1)) hx hb dX8_beginObject_10 (by decide) ?_
    exact W.iret (v := (-1)) hx hb hr (fun t ht hW => ⟨⟨(-1), (V, L), rfl, ⟨hMV, agV, rfl, (by decide), sl, (Imp.mk (fun hp => absurd hp (by decide))), (Imp.mk (fun hp => absurd hp (by decide))), (Imp.mk (fun hp => absurd hp (by decide))), (Imp.mk (fun hp => absurd hp (by decide))), (Imp.mk (fun _ => (show (V 3 13).toInt = (V 3 13).toInt from by first | exact om_4c2c879c4424  | first | omega | ((try (have i_sl := Imp.go sl (by omega))); omega)))), (Imp.mk (fun hp => absurd hp (by decide))), (Imp.mk (fun _ => rfl)), (Imp.mk (fun hp => absurd hp (by decide))), (Imp.mk (fun hp => absurd hp (by decide))), (Imp.mk (fun hp => absurd hp (by decide))), (show ((-1) = -1 ∧ 300 ≤ (V 3 13).toInt) ∨ (0 ≤ (-1) ∧ (V 3 13).toInt < 300) from by first | exact om_ecc1df0c79db r1 f38 | first | omega | ((try (have i_sl := Imp.go sl (by omega))); omega))⟩, by rw [ht]; exact hP, va_K.moved hW.alike hK, hD⟩, hS.F ht⟩) hS.2.2 dX8_beginObject_11
abbrev r_x_beginMaking9 (Z : XZ) : Room := { frames := 3, cells := zcc Z, slots := zss Z, locals := 70 }
abbrev q_x_beginMaking9 (D : va_G) (ks : KS) (ad : Nat → Nat) (kk : Nat → ClassId) (V : Vf) (L : Lf) (Z : XZ) (p0 : Int32) (p1 : Int32) (p2 : Int32) (p3 : Int32) (b : Nat) (gB : Bk) (gm : Mm) (ga : Int32) (gfs : List Fr) (A : Nat → Prop) : Array Value → State → Outcome → State → Prop := qZv D (fun (u : Vf × Lf × XZ) => rgd bX u.1 ∧ agr [(3, 13), (5, 6), (5, 9), (5, 11), (5, 12), (5, 13), (5, 14)] [25, 26, 27, 28, 30, 67, 68, 69, 70, 71, 72, 73, 74, 75, 76, 77, 78, 79, 80, 81, 82, 83, 84, 85] V u.1 ∧ u.2.1 = L ∧ ZL Z u.2.2 ∧ (MJ u.1 u.2.2 b) ∧ (RW u.1 gB (makeM gm ga gfs p0.toInt p1.toInt p2.toInt))) (fun u => xw ad kk u.1 u.2.1 u.2.2) (fun u => xty kk u.2.2) (fun u => zcc Z - zcc u.2.2) (fun u => zss Z - zss u.2.2) A
set_option maxHeartbeats 4000000 in
set_option maxRecDepth 100000 in
theorem x_beginMaking9 (l : Launch) (D : va_G) (ks : KS) (sz : Nat) (ad : Nat → Nat) (kk : Nat → ClassId) (V : Vf) (L : Lf) (Z : XZ) (p0 : Int32) (p1 : Int32) (p2 : Int32) (p3 : Int32) (b : Nat) (gB : Bk) (gm : Mm) (ga : Int32) (gfs : List Fr) (hMV : rgd bX V) (rg_p0 : 0 ≤ p0.toInt ∧ p0.toInt ≤ 23) (rg_p1 : 0 ≤ p1.toInt ∧ p1.toInt ≤ 39) (rg_p3 : 0 ≤ p3.toInt ∧ p3.toInt ≤ 1) (hb2 : b < 2) (mt : MTw V Z b) (hcm : p0.toInt < (V 43 (5 * b + 2)).toInt) (rwq : RW V gB (gm, ga, gfs)) (bc : BKc V b gB) (dp9 : (V 5 6).toInt ≤ 395) (cp8 : 0 ≤ p0.toInt) (cp9 : p0.toInt < ((nC gB : Nat) : Int)) (sc8 : 0 ≤ p1.toInt) (sc9 : p1.toInt < (V 3 12).toInt) (hu9 : bS gB p0.toInt.toNat ≠ 3 → prs gm p1.toInt p0.toInt (gm 0 2).toNat < 0) (sh9 : (p3.toInt ≠ 0 ∧ bS gB p0.toInt.toNat ≠ 3) ∨ (p3.toInt = 0 ∧ bS gB p0.toInt.toNat = 3))  : Met l yX5_beginMaking (Cond.code yX5_beginMaking cX5_beginMaking 6 none :: GW) (r_x_beginMaking9 Z) (va_Pc [.ref (ad 5), .int p0, .int p1, .int p2, .int p3] (gp D ks (xw ad kk V L Z) (xty kk Z) sz)) (q_x_beginMaking9 D ks ad kk V L Z p0 p1 p2 p3 b gB gm ga gfs (va_A (xw ad kk V L Z) sz)) (zcc Z) (zss Z) (va_A (xw ad kk V L Z) sz) := by
  refine g_met (q_x_beginMaking9 D ks ad kk V L Z p0 p1 p2 p3 b gB gm ga gfs) (by decide) (Nat.le_of_ble_eq_true rfl) ?_
  intro p e s m below meth c A ls H locs hx hb hr hml hown hg hlocks hin hnw hgk hP hK hD hS hA hl
  replace hown : s.vm.findClass RX5 = some m.cls := hown
  replace hl : lv_has ls 6 [(0, .ref (ad 5)), (1, .int p0), (2, .int p1), (3, .int p2), (4, .int p3)] := hl
  replace hP : va_P D vwCl (xw ad kk V L Z) H := hP
  replace hD : va_D A (xw ad kk V L Z) := hD
  replace hK : va_K D vwCl (xty kk Z) s := hK
  have agV : agr [(3, 13), (5, 6), (5, 9), (5, 11), (5, 12), (5, 13), (5, 14)] [25, 26, 27, 28, 30, 67, 68, 69, 70, 71, 72, 73, 74, 75, 76, 77, 78, 79, 80, 81, 82, 83, 84, 85] V V := agr.rf
  have zoZ : ZL Z Z := ZL.rf
  refine W.know (fun ka kb => ?_)
  refine W.tight (k := zcc Z - zcc Z) (n := zss Z - zss Z) (by (first | exact om_7244b830ee02 ka | omega)) (by (first | exact om_7244b830ee02 kb | omega)) ?_
  have r1 : 0 ≤ ((V 43 (5 * b + 2))).toInt ∧ ((V 43 (5 * b + 2))).toInt ≤ ((xcap (5 * b + 2) : Nat) : Int) := hMV 43 (5 * b + 2)
  have r2 : xcap (5 * b + 2) = 24 := xcap_2
  have r3 : 0 ≤ ((V 5 6)).toInt ∧ ((V 5 6)).toInt ≤ 400 := hMV 5 6
  have kdp := i_clamp (x := V 5 6) rfl (by (first | exact om_15fbfed9592e dp9 r3 | omega))
  have hdn := MTw.dn mt (by (first | exact om_59e4c643e840 dp9 r3 kdp | omega))
  have mup := MTw.up mt
  have msz := mup.1
  have mbk := mup.2.2.2.1
  have m1 : Int32.toInt (-1) = -1 := by decide
  have rw0 := rwq
  obtain ⟨⟨ow, rn⟩, rh, rd, tw9, rt9, rl⟩ := rw0
  replace rn : RWn V ow gB gm := rn
  replace rh : RWh V gm ga := rh
  have rd2 : (V 5 6).toInt = ((gfs.length : Nat) : Int) := rd
  have rh1 : (V 5 9).toInt = gm 0 6 := rh.1
  have ra2 : (V 3 13).toInt = gm 0 2 := rn.1.1.2.2.1
  have n24 : nC gB ≤ 24 := bc.2.2.2.1.2.1
  have sz9 : (V 43 (5 * b + 2)).toInt = ((nC gB : Nat) : Int) := bc.2.2.2.1.1
  have s51 : (V 51 (24 * b + Int32.toNatClampNeg p0)).toInt = ((bS gB p0.toInt.toNat : Nat) : Int) := BKc.sc bc (show p0.toInt.toNat < nC gB from by (first | exact om_b96529cebcc1 cp9 mup n24 sz9 | omega))
  refine lv_aload_n hx hb dX5_beginMaking_0 rfl (lv_at hl 0 rfl) ?_
  refine gA_int (gA_runV (As := []) (rest := []) (ci := 5) (q0 := 5) hx hb hml hown hg hP hD hK hS hA hnw hgk (x_takesStep9 l D ks H.size ad kk V L Z  hMV ) w1281 w1283 w48 w171 w1284 rfl xgMachine hdV_yX5_takesStep ⟨Nat.le_of_ble_eq_true rfl, Nat.le_of_ble_eq_true rfl⟩ rfl hl.1 rfl (Nat.le_of_ble_eq_true rfl) dX5_beginMaking_1 ⟨z0, z0⟩) hP hD hK hS hA (fun z4 u5 H locs w6 hP hD hK hS => ?_)
  obtain ⟨V10, L11⟩ := u5
  obtain ⟨hMV10, ajV10, axL11, rgz4, t7, t8, t9⟩ := w6
  have axL11 : L = L11 := Eq.symm axL11
  subst axL11
  replace hP : va_P D vwCl (xw ad kk V10 L Z) H := hP
  replace hD : va_D A (xw ad kk V10 L Z) := hD
  replace hMV10 : rgd bX V10 := hMV10
  replace ajV10 : agr [(5, 9), (5, 13), (5, 14)] [] V V10 := ajV10
  have agV10 : agr [(3, 13), (5, 6), (5, 9), (5, 11), (5, 12), (5, 13), (5, 14)] [25, 26, 27, 28, 30, 67, 68, 69, 70, 71, 72, 73, 74, 75, 76, 77, 78, 79, 80, 81, 82, 83, 84, 85] V V10 := agV.tr ajV10 (by decide) (by decide)
  replace rgz4 : 0 ≤ z4.toInt ∧ z4.toInt ≤ 1 := rgz4
  replace t7 : Imp (z4.toInt = 0) ((V10 5 9).toInt = 3) := t7
  replace t8 : Imp (z4.toInt = 1) ((V10 5 9).toInt = (V 5 9).toInt) := t8
  replace t9 : ((z4.toInt = 1 ∧ (V 5 13).toInt < 3000 ∧ (V 5 14).toInt < 60000) ∧ V10 = (up2 (up2 V 5 13 (V 5 13 + 1)) 5 14 (V 5 14 + 1))) ∨ ((z4.toInt = 0 ∧ (3000 ≤ (V 5 13).toInt ∨ 60000 ≤ (V 5 14).toInt)) ∧ V10 = (up2 V 5 9 3)) := t9
  have r12 : 0 ≤ ((V10 5 9)).toInt ∧ ((V10 5 9)).toInt ≤ 3 := hMV10 5 9
  have r13 : 0 ≤ ((V 5 9)).toInt ∧ ((V 5 9)).toInt ≤ 3 := hMV 5 9
  rcases t9 with ⟨hc14, hw15⟩ | ⟨hc16, hw17⟩
  · skip
    have r19 : 0 ≤ ((V 5 13)).toInt ∧ ((V 5 13)).toInt ≤ 3000 := hMV 5 13
    obtain ⟨z18, ez18⟩ : ∃ y : Int32, y = V 5 13 + 1 := ⟨_, rfl⟩
    have hz18 : z18.toInt = (V 5 13).toInt + 1 := i_add ez18 rfl (by decide) (by first | exact om_85cadc5978b9 hc14 r19 | first | omega | ((try (have i_t8 := Imp.go t8 (by omega))); (try (have i_t7 := Imp.go t7 (by omega))); (try (have i_t7 := Imp.go t7 (by omega))); (try (have i_t8 := Imp.go t8 (by omega))); omega))
    obtain ⟨V20, hV20⟩ : ∃ z, z = up2 V 5 13 z18 := ⟨_, rfl⟩
    have r22 : 0 ≤ ((V 5 14)).toInt ∧ ((V 5 14)).toInt ≤ 60000 := hMV 5 14
    obtain ⟨z21, ez21⟩ : ∃ y : Int32, y = V 5 14 + 1 := ⟨_, rfl⟩
    have hz21 : z21.toInt = (V 5 14).toInt + 1 := i_add ez21 rfl (by decide) (by first | exact om_024f86a0353e hc14 r22 | first | omega | ((try (have i_t8 := Imp.go t8 (by omega))); (try (have i_t7 := Imp.go t7 (by omega))); (try (have i_t7 := Imp.go t7 (by omega))); (try (have i_t8 := Imp.go t8 (by omega))); omega))
    have hV10 : V10 = up2 V20 5 14 z21 := by rw [hw15, hV20, ez18, ez21]
    refine lv_if_ne (tgt := 8) hx hb dX5_beginMaking_4 (by decide) (fun c23 => ?_) (fun c23 => ?_)
    · skip
      have f24 : z4.toInt ≠ 0 := b_neq rfl (by decide) c23
      have rw25 : RW V10 gB (mSt gm, ga, gfs) := RW.stp rwq (by rw [up2_s hV10]; exact hz21) (by rw [(up2_k hV10 (by decide)).trans (up2_s hV20)]; exact hz18) (fun c9 k9 h9 => ((show V10 c9 k9 = V20 c9 k9 from by rw [hV10]; exact up2_pl (by (first | exact om_3c8b5c231eb1 h9 | omega))).trans (show V20 c9 k9 = V c9 k9 from by rw [hV20]; exact up2_pl (by (first | exact om_efa07d15d02f h9 | omega)))))
      have can9 : mCan gm := by have h1 := rn.1.1.1; have h2 := rn.1.1.2.1; exact ⟨by (first | exact om_3bc8c5b4f1e7 hc14 r19 hz18 h2 | omega), by (first | exact om_aba245bc7bc5 hc14 r22 hz21 h1 | omega)⟩
      refine lv_aload_n hx hb dX5_beginMaking_8 rfl (lv_at hl 0 rfl) ?_
      refine va_get (D := D) (ci := 5) (v := .ref (ad 3)) (fs := (xfMachine ad V10 L Z)) (C := RX5) (T := TX5) (N := 15) hx hb hg inX5 hown hK hP 5 xgMachine rfl 0 (by decide) (hg _ w667) (fun _ h9 => h9) rfl dX5_beginMaking_9 ?_
      refine lv_iload_n hx hb dX5_beginMaking_12 rfl (lv_at hl 1 rfl) ?_
      refine lv_iload_n hx hb dX5_beginMaking_13 rfl (lv_at hl 2 rfl) ?_
      refine lv_iload hx hb dX5_beginMaking_14 (lv_at hl 4 rfl) ?_
      have me26 : ME V V10 0 := (ME.up (ME.up ME.rf hV20 (Or.inr (by (first | exact om_98aee353de00  | omega)))) hV10 (Or.inr (by (first | exact om_4b1deb63f5fb  | omega))))
      have sl27 : SL V10 Z := by unfold SL; rw [me26.2.2.1.2.1, me26.2.2.1.1]; exact ⟨mup.2.2.2.2.1.1, mup.2.2.2.2.1.2.1, fun o k a1 a2 => by rw [me26.2.2.2.2.1]; exact mup.2.2.2.2.1.2.2.1 o k a1 a2, fun i a1 => by rw [me26.2.2.2.2.2.1]; exact mup.2.2.2.2.1.2.2.2 i a1⟩
      refine gA_int (gA_runV (As := [.int p0, .int p1, .int p3]) (rest := []) (ci := 8) (q0 := 3) hx hb hml hown hg hP hD hK hS hA hnw hgk (x_beginObject9 l D ks H.size ad kk V10 L Z p0 p1 p3 hMV10 (by first | exact om_633243927a9e rg_p0 | first | omega | ((try (have i_t8 := Imp.go t8 (by omega))); (try (have i_t7 := Imp.go t7 (by omega))); (try (have i_t7 := Imp.go t7 (by omega))); (try (have i_t8 := Imp.go t8 (by omega))); omega)) (by first | exact om_647482f06eaf rg_p1 | first | omega | ((try (have i_t8 := Imp.go t8 (by omega))); (try (have i_t7 := Imp.go t7 (by omega))); (try (have i_t7 := Imp.go t7 (by omega))); (try (have i_t8 := Imp.go t8 (by omega))); omega)) (by first | exact om_dc5064e250aa rg_p3 | first | omega | ((try (have i_t8 := Imp.go t8 (by omega))); (try (have i_t7 := Imp.go t7 (by omega))); (try (have i_t7 := Imp.go t7 (by omega))); (try (have i_t8 := Imp.go t8 (by omega))); omega)) sl27) w1286 w1287 w1288 w164 w1289 rfl xgStock hdV_yX8_beginObject ⟨Nat.le_of_ble_eq_true rfl, Nat.le_of_ble_eq_true rfl⟩ rfl hl.1 rfl (Nat.le_of_ble_eq_true rfl) dX5_beginMaking_16 ⟨z0, z0⟩) hP hD hK hS hA (fun z28 u29 H locs w30 hP hD hK hS => ?_)
      obtain ⟨V43, L44⟩ := u29
      obtain ⟨hMV43, ajV43, axL44, rgz28, t31, t32, t33, t34, t35, t36, t37, t38, t39, t40, t41, t42⟩ := w30
      have axL44 : L = L44 := Eq.symm axL44
      subst axL44
      replace hP : va_P D vwCl (xw ad kk V43 L Z) H := hP
      replace hD : va_D A (xw ad kk V43 L Z) := hD
      replace hMV43 : rgd bX V43 := hMV43
      replace ajV43 : agr [(3, 13)] [25, 26, 27, 28, 30] V10 V43 := ajV43
      have agV43 : agr [(3, 13), (5, 6), (5, 9), (5, 11), (5, 12), (5, 13), (5, 14)] [25, 26, 27, 28, 30, 67, 68, 69, 70, 71, 72, 73, 74, 75, 76, 77, 78, 79, 80, 81, 82, 83, 84, 85] V V43 := agV10.tr ajV43 (by decide) (by decide)
      replace rgz28 : (-1) ≤ z28.toInt ∧ z28.toInt ≤ 299 := rgz28
      replace t31 : SL V43 Z := t31
      replace t32 : Imp (0 ≤ z28.toInt) (∀ q : Nat, 8 * Int32.toNatClampNeg (V10 3 13) ≤ q → q < 8 * Int32.toNatClampNeg (V10 3 13) + 8 → (V43 30 q).toInt = -1) := t32
      replace t33 : Imp (0 ≤ z28.toInt) (∀ q : Nat, ¬ (8 * Int32.toNatClampNeg (V10 3 13) ≤ q ∧ q < 8 * Int32.toNatClampNeg (V10 3 13) + 8) → V43 30 q = V10 30 q) := t33
      replace t34 : Imp (0 ≤ z28.toInt) (∀ q : Nat, ¬ q = Int32.toNatClampNeg (V10 3 13) → V43 26 q = V10 26 q) := t34
      replace t35 : Imp (0 ≤ z28.toInt) (z28.toInt = (V10 3 13).toInt ∧ (V43 3 13).toInt = (V10 3 13).toInt + 1) := t35
      replace t36 : Imp (z28.toInt = -1) ((V43 3 13).toInt = (V10 3 13).toInt) := t36
      replace t37 : Imp (0 ≤ z28.toInt) (V43 26 (Int32.toNatClampNeg (V10 3 13)) = p0) := t37
      replace t38 : Imp (z28.toInt = -1) (V43 = V10) := t38
      replace t39 : Imp (0 ≤ z28.toInt) (∀ k : Nat, k < 960 → V43 25 k = V10 25 k ∨ ((V43 25 k).toInt = z28.toInt ∧ p0.toInt = ((k % 24 : Nat) : Int))) := t39
      replace t40 : Imp (0 ≤ z28.toInt) (V43 27 (Int32.toNatClampNeg (V10 3 13)) = p1 ∧ (V43 28 (Int32.toNatClampNeg (V10 3 13))).toInt = 0 ∧ ∀ q : Nat, ¬ q = (Int32.toNatClampNeg (V10 3 13)) → V43 27 q = V10 27 q ∧ V43 28 q = V10 28 q) := t40
      replace t41 : Imp (0 ≤ z28.toInt) ((p3.toInt ≠ 0 ∧ V43 25 (24 * Int32.toNatClampNeg p1 + Int32.toNatClampNeg p0) = z28 ∧ ∀ k : Nat, k ≠ (24 * Int32.toNatClampNeg p1 + Int32.toNatClampNeg p0) → V43 25 k = V10 25 k) ∨ (p3.toInt = 0 ∧ ∀ k : Nat, V43 25 k = V10 25 k)) := t41
      replace t42 : (z28.toInt = -1 ∧ 300 ≤ (V10 3 13).toInt) ∨ (0 ≤ z28.toInt ∧ (V10 3 13).toInt < 300) := t42
      have pq45 : (V10 3 13).toInt = ((V 3 13)).toInt := congrArg Int32.toInt ((up2_o hV10 (by decide)).trans (up2_o hV20 (by decide)))
      have r46 : 0 ≤ ((V 3 13)).toInt ∧ ((V 3 13)).toInt ≤ 300 := hMV 3 13
      have r47 : 0 ≤ ((V43 3 13)).toInt ∧ ((V43 3 13)).toInt ≤ 300 := hMV43 3 13
      refine lv_istore (lv' := [(5, .int z28), (0, .ref (ad 5)), (1, .int p0), (2, .int p1), (3, .int p2), (4, .int p3)]) hx hb dX5_beginMaking_19 hl (by decide) rfl (fun ls hl => ?_)
      refine lv_iload hx hb dX5_beginMaking_21 (lv_at hl 0 rfl) ?_
      refine lv_iconst (v := (-1)) hx hb dX5_beginMaking_23 (by decide) ?_
      refine lv_icmp_ne (tgt := 35) hx hb dX5_beginMaking_24 (by decide) (fun c48 => ?_) (fun c48 => ?_)
      · skip
        have f49 : z28.toInt ≠ (-1) := b_neq rfl (by decide) c48
        refine lv_aload_n hx hb dX5_beginMaking_35 rfl (lv_at hl 1 rfl) ?_
        refine lv_iconst (v := 1) hx hb dX5_beginMaking_36 (by decide) ?_
        refine lv_iload_n hx hb dX5_beginMaking_37 rfl (lv_at hl 4 rfl) ?_
        refine lv_iload hx hb dX5_beginMaking_38 (lv_at hl 0 rfl) ?_
        refine lv_iload_n hx hb dX5_beginMaking_40 rfl (lv_at hl 2 rfl) ?_
        refine lv_iload_n hx hb dX5_beginMaking_41 rfl (lv_at hl 3 rfl) ?_
        have r50 : Int32.toInt 1 = 1 := by decide
        have pq51 : (V43 5 6).toInt = ((V 5 6)).toInt := congrArg Int32.toInt ((ajV43 5 6 rfl).trans ((up2_k hV10 (by decide)).trans (up2_k hV20 (by decide))))
        refine W.know (fun k53 k54 => ?_)
        obtain ⟨Hk52, hHk52⟩ : ∃ z, z = H := ⟨_, rfl⟩
        have k53 : Hk52.size ≤ s.heap.size + (zcc Z - zcc Z) := by rw [hHk52]; exact k53
        have k54 : tot Hk52 ≤ tot s.heap + (zss Z - zss Z) := by rw [hHk52]; exact k54
        refine gZ_ref (gA_runV (As := [.int 1, .int p2, .int z28, .int p0, .int p1]) (rest := []) (ci := 5) (q0 := 5) hx hb hml hown hg hP hD hK hS hA hnw hgk (x_push9 l D ks H.size ad kk V43 L Z 1 p2 z28 p0 p1 hMV43 (by first | exact om_91f445788fb6 rg_p0 | first | omega | ((try (have i_t8 := Imp.go t8 (imp_a (rgz4.1) (rgz4.2) (f24)))); omega) | ((try (have i_t36 := Imp.go t36 (by omega))); (try (have i_t35 := Imp.go t35 (by omega))); (try (have i_t8 := Imp.go t8 (by omega))); (try (have i_t7 := Imp.go t7 (by omega))); first | omega | ((try (have i_t7 := Imp.go t7 (by omega))); (try (have i_t8 := Imp.go t8 (by omega))); (try (have i_t35 := Imp.go t35 (by omega))); (try (have i_t36 := Imp.go t36 (by omega))); omega))) (by first | exact om_647482f06eaf rg_p1 | first | omega | ((try (have i_t8 := Imp.go t8 (imp_a (rgz4.1) (rgz4.2) (f24)))); omega) | ((try (have i_t36 := Imp.go t36 (by omega))); (try (have i_t35 := Imp.go t35 (by omega))); (try (have i_t8 := Imp.go t8 (by omega))); (try (have i_t7 := Imp.go t7 (by omega))); first | omega | ((try (have i_t7 := Imp.go t7 (by omega))); (try (have i_t8 := Imp.go t8 (by omega))); (try (have i_t35 := Imp.go t35 (by omega))); (try (have i_t36 := Imp.go t36 (by omega))); omega))) (show (V43 5 6).toInt ≤ (Z.nf : Int) from by first | exact om_5ac69bd24108 kdp hdn rd rd2 pq51 | first | omega | ((try (have i_t8 := Imp.go t8 (imp_a (rgz4.1) (rgz4.2) (f24)))); omega) | ((try (have i_t36 := Imp.go t36 (by omega))); (try (have i_t35 := Imp.go t35 (by omega))); (try (have i_t8 := Imp.go t8 (by omega))); (try (have i_t7 := Imp.go t7 (by omega))); first | omega | ((try (have i_t7 := Imp.go t7 (by omega))); (try (have i_t8 := Imp.go t8 (by omega))); (try (have i_t35 := Imp.go t35 (by omega))); (try (have i_t36 := Imp.go t36 (by omega))); omega))) (show (Z.nf : Int) ≤ 400 from by first | exact om_b909a84c580a hdn | first | omega | ((try (have i_t8 := Imp.go t8 (imp_a (rgz4.1) (rgz4.2) (f24)))); omega) | ((try (have i_t36 := Imp.go t36 (by omega))); (try (have i_t35 := Imp.go t35 (by omega))); (try (have i_t8 := Imp.go t8 (by omega))); (try (have i_t7 := Imp.go t7 (by omega))); first | omega | ((try (have i_t7 := Imp.go t7 (by omega))); (try (have i_t8 := Imp.go t8 (by omega))); (try (have i_t35 := Imp.go t35 (by omega))); (try (have i_t36 := Imp.go t36 (by omega))); omega)))) w1180 w1182 w43 w171 w1183 rfl xgMachine hdV_yX5_push ⟨Nat.le_of_ble_eq_true rfl, Nat.le_of_ble_eq_true rfl⟩ rfl hl.1 rfl (Nat.le_of_ble_eq_true rfl) dX5_beginMaking_42 ⟨z1 zoZ.1, z1 zoZ.2.1⟩) hD hS hA (fun u56 H locs w57 hP hD hK hS y58 y59 => ?_)
        obtain ⟨V60, L61, Z62, f63⟩ := u56
        obtain ⟨hMV60, ajV60, axL61, zlZ62, ilf63, t64, t65, t66, t67, t68, t69, t70, t71⟩ := w57
        have axL61 : L = L61 := Eq.symm axL61
        subst axL61
        replace hP : va_P D vwCl (xw ad kk V60 L Z62) H := hP
        replace hD : va_D A (xw ad kk V60 L Z62) := hD
        replace hK : va_K D vwCl (xty kk Z62) s := hK
        replace hMV60 : rgd bX V60 := hMV60
        replace ajV60 : agr [(5, 6), (5, 9)] [67, 68, 69, 70, 71, 72, 73, 74, 75, 76, 77, 78, 79, 80, 81, 82, 83, 84, 85] V43 V60 := ajV60
        have agV60 : agr [(3, 13), (5, 6), (5, 9), (5, 11), (5, 12), (5, 13), (5, 14)] [25, 26, 27, 28, 30, 67, 68, 69, 70, 71, 72, 73, 74, 75, 76, 77, 78, 79, 80, 81, 82, 83, 84, 85] V V60 := agV43.tr ajV60 (by decide) (by decide)
        replace zlZ62 : ZL Z Z62 := zlZ62
        have zoZ62 : ZL Z Z62 := ZL.tr zoZ zlZ62
        have ziZ62 := zlZ62.1
        have zjZ62 := zlZ62.2.1
        have zkZ62 := zlZ62.2.2.1
        have zmZ62 := zoZ62.1
        have znZ62 := zoZ62.2.1
        have zpZ_Z62 := zoZ.1
        have zqZ_Z62 := zoZ.2.1
        have y58 : H.size ≤ Hk52.size + (zcc Z - zcc Z62) := by rw [hHk52]; exact y58
        have y59 : tot H ≤ tot Hk52 + (zss Z - zss Z62) := by rw [hHk52]; exact y59
        refine W.tight (k := zcc Z - zcc Z62) (n := zss Z - zss Z62) (by first | exact tg9 y58 k53 zlZ62.1 zoZ.1 | omega) (by first | exact tg9 y59 k54 zlZ62.2.1 zoZ.2.1 | omega) ?_
        replace ilf63 : f63 < Z62.nf := ilf63
        replace t64 : ME V43 V60 f63 := t64
        replace t65 : V60 67 f63 = 1 ∧ V60 68 f63 = 0 ∧ V60 70 f63 = z28 ∧ V60 71 f63 = p0 ∧ V60 75 f63 = 0 ∧ V60 76 f63 = 0 := t65
        replace t66 : (f63 : Int) + 1 = (V60 5 6).toInt := t66
        replace t67 : (f63 : Int) ≤ (V43 5 6).toInt ∧ (V43 5 6).toInt ≤ (f63 : Int) + 1 := t67
        replace t68 : (V60 5 9).toInt = 0 := t68
        replace t69 : Z62.ln = Z.ln ∧ Z62.nf ≤ 400 := t69
        replace t70 : V60 69 f63 = p2 ∧ V60 72 f63 = p1 ∧ V60 83 f63 = 0 := t70
        replace t71 : Imp ((V43 5 6).toInt < 400) ((f63 : Int) = (V43 5 6).toInt) := t71
        have r72 : 0 ≤ ((V60 5 6)).toInt ∧ ((V60 5 6)).toInt ≤ 400 := hMV60 5 6
        have r73 : 0 ≤ ((V60 5 9)).toInt ∧ ((V60 5 9)).toInt ≤ 3 := hMV60 5 9
        have pr74 : (V60 67 f63).toInt = 1 := (congrArg Int32.toInt t65.1).trans (by decide)
        have pr75 : (V60 68 f63).toInt = 0 := (congrArg Int32.toInt t65.2.1).trans (by decide)
        have pr76 : (V60 70 f63).toInt = z28.toInt := (congrArg Int32.toInt t65.2.2.1)
        have pr77 : (V60 71 f63).toInt = p0.toInt := (congrArg Int32.toInt t65.2.2.2.1)
        have pr78 : (V60 75 f63).toInt = 0 := (congrArg Int32.toInt t65.2.2.2.2.1).trans (by decide)
        have pr79 : (V60 76 f63).toInt = 0 := (congrArg Int32.toInt t65.2.2.2.2.2).trans (by decide)
        refine lv_pop hx hb dX5_beginMaking_45 rfl ?_
        have me80 : ME V V10 400 := (ME.up (ME.up ME.rf hV20 (Or.inr (by (first | exact om_98aee353de00  | omega)))) hV10 (Or.inr (by (first | exact om_4b1deb63f5fb  | omega))))
        have mt81 : MTw V10 Z b := MTw.me mt me80 ((up2_k hV10 (by first | exact om_c65d3c514e09  | first | omega | ((try (have i_t8 := Imp.go t8 (imp_a (rgz4.1) (rgz4.2) (f24)))); omega) | ((try (have i_t71 := Imp.go t71 (by omega))); (try (have i_t36 := Imp.go t36 (by omega))); (try (have i_t35 := Imp.go t35 (by omega))); (try (have i_t8 := Imp.go t8 (by omega))); first | omega | ((try (have i_t7 := Imp.go t7 (by omega))); (try (have i_t7 := Imp.go t7 (by omega))); (try (have i_t8 := Imp.go t8 (by omega))); (try (have i_t35 := Imp.go t35 (by omega))); (try (have i_t36 := Imp.go t36 (by omega))); (try (have i_t71 := Imp.go t71 (by omega))); omega)))).trans (up2_k hV20 (by first | exact om_de3511eb9b8b  | first | omega | ((try (have i_t8 := Imp.go t8 (imp_a (rgz4.1) (rgz4.2) (f24)))); omega) | ((try (have i_t71 := Imp.go t71 (by omega))); (try (have i_t36 := Imp.go t36 (by omega))); (try (have i_t35 := Imp.go t35 (by omega))); (try (have i_t8 := Imp.go t8 (by omega))); first | omega | ((try (have i_t7 := Imp.go t7 (by omega))); (try (have i_t7 := Imp.go t7 (by omega))); (try (have i_t8 := Imp.go t8 (by omega))); (try (have i_t35 := Imp.go t35 (by omega))); (try (have i_t36 := Imp.go t36 (by omega))); (try (have i_t71 := Imp.go t71 (by omega))); omega)))))
        have pq82 : (V10 43 (5 * b + 2)).toInt = ((V 43 (5 * b + 2))).toInt := congrArg Int32.toInt ((up2_o hV10 (by decide)).trans (up2_o hV20 (by decide)))
        have ko1 := i_clamp (x := V10 3 13) rfl (by (first | exact om_9dffafaff6fc ra2 pq45 r46 | omega))
        have mx : MTx V43 Z b 202 := MTw.ob (o := Int32.toNatClampNeg (V10 3 13)) mt81 ajV43 (by decide) t31 (by (first | exact om_cee6a442cd25 ko1 | omega)) (by first | omega | ((try (have i_t8 := Imp.go t8 (imp_a (rgz4.1) (rgz4.2) (f24)))); omega) | ((try (have i_t71 := Imp.go t71 (by omega))); (try (have i_t36 := Imp.go t36 (by omega))); (try (have i_t35 := Imp.go t35 (by omega))); (try (have i_t8 := Imp.go t8 (by omega))); first | omega | ((try (have i_t7 := Imp.go t7 (by omega))); (try (have i_t7 := Imp.go t7 (by omega))); (try (have i_t8 := Imp.go t8 (by omega))); (try (have i_t35 := Imp.go t35 (by omega))); (try (have i_t36 := Imp.go t36 (by omega))); (try (have i_t71 := Imp.go t71 (by omega))); omega))) (by first | exact om_3a691ae05636 r47 | first | omega | ((try (have i_t8 := Imp.go t8 (imp_a (rgz4.1) (rgz4.2) (f24)))); omega) | ((try (have i_t71 := Imp.go t71 (by omega))); (try (have i_t36 := Imp.go t36 (by omega))); (try (have i_t35 := Imp.go t35 (by omega))); (try (have i_t8 := Imp.go t8 (by omega))); first | omega | ((try (have i_t7 := Imp.go t7 (by omega))); (try (have i_t7 := Imp.go t7 (by omega))); (try (have i_t8 := Imp.go t8 (by omega))); (try (have i_t35 := Imp.go t35 (by omega))); (try (have i_t36 := Imp.go t36 (by omega))); (try (have i_t71 := Imp.go t71 (by omega))); omega))) (Imp.go t34 (by (first | exact om_e3b1d6ac9ce8 rgz28.1 f49 | omega))) (by rw [Imp.go t37 (by (first | exact om_e3b1d6ac9ce8 rgz28.1 f49 | omega))]; (first | exact om_647962fe9b88 cp9 sz9 pr77 pq82 | omega)) (fun k hk => Or.elim (Imp.go t39 (by (first | exact om_e3b1d6ac9ce8 rgz28.1 f49 | omega)) k hk) Or.inl (fun z => Or.inr ⟨by obtain ⟨z1, z2⟩ := z; first | omega | ((try (have i_t8 := Imp.go t8 (imp_a (rgz4.1) (rgz4.2) (f24)))); omega) | ((try (have i_t71 := Imp.go t71 (by omega))); (try (have i_t36 := Imp.go t36 (by omega))); (try (have i_t35 := Imp.go t35 (by omega))); (try (have i_t8 := Imp.go t8 (by omega))); first | omega | ((try (have i_t7 := Imp.go t7 (by omega))); (try (have i_t7 := Imp.go t7 (by omega))); (try (have i_t8 := Imp.go t8 (by omega))); (try (have i_t35 := Imp.go t35 (by omega))); (try (have i_t36 := Imp.go t36 (by omega))); (try (have i_t71 := Imp.go t71 (by omega))); omega)), by obtain ⟨z1, z2⟩ := z; rw [Imp.go t37 (by (first | exact om_e3b1d6ac9ce8 rgz28.1 f49 | omega))]; omega⟩))
        have me83 : ME V43 V60 f63 := (ME.tr ME.rf t64)
        have r84 : (-1) ≤ ((V60 71 f63)).toInt ∧ ((V60 71 f63)).toInt ≤ 23 := hMV60 71 f63
        have r85 : 0 ≤ ((V60 75 f63)).toInt ∧ ((V60 75 f63)).toInt ≤ 12 := hMV60 75 f63
        have r86 : 0 ≤ ((V60 80 f63)).toInt ∧ ((V60 80 f63)).toInt ≤ 300 := hMV60 80 f63
        have r87 : 0 ≤ ((V60 84 f63)).toInt ∧ ((V60 84 f63)).toInt ≤ 2147483647 := hMV60 84 f63
        have pq88 : (V60 5 8).toInt = ((V 5 8)).toInt := congrArg Int32.toInt ((ajV60 5 8 rfl).trans ((ajV43 5 8 rfl).trans ((up2_k hV10 (by decide)).trans (up2_k hV20 (by decide)))))
        have r89 : 0 ≤ ((V 5 8)).toInt ∧ ((V 5 8)).toInt ≤ 300 := hMV 5 8
        have pq90 : (V60 3 13).toInt = ((V43 3 13)).toInt := congrArg Int32.toInt (ajV60 3 13 rfl)
        have pq91 : (V60 43 (5 * b + 2)).toInt = ((V 43 (5 * b + 2))).toInt := congrArg Int32.toInt ((ajV60 43 (5 * b + 2) rfl).trans ((ajV43 43 (5 * b + 2) rfl).trans ((up2_o hV10 (by decide)).trans (up2_o hV20 (by decide)))))
        have pq92 : (V60 42 b).toInt = ((V 42 b)).toInt := congrArg Int32.toInt ((ajV60 42 b rfl).trans ((ajV43 42 b rfl).trans ((up2_o hV10 (by decide)).trans (up2_o hV20 (by decide)))))
        have r93 : 0 ≤ ((V 42 b)).toInt ∧ ((V 42 b)).toInt ≤ 8200 := hMV 42 b
        have pq94 : (V60 41 b).toInt = ((V 41 b)).toInt := congrArg Int32.toInt ((ajV60 41 b rfl).trans ((ajV43 41 b rfl).trans ((up2_o hV10 (by decide)).trans (up2_o hV20 (by decide)))))
        have r95 : 0 ≤ ((V 41 b)).toInt ∧ ((V 41 b)).toInt ≤ 12 := hMV 41 b
        have rp96 : MJ V60 Z62 b := MTx.pu (v := False) mx (by (first | exact om_3697166da173 t66 t67 | omega)) me83 t69.1 (by (first | exact om_7d090918b763 ilf63 t66 | omega)) t69.2 (FK.k1 (by (first | exact om_710535a98d88 pr74 | omega)) (by (first | exact om_24bf20a50c02 rg_p0 cp9 sz9 pr77 pq82 pq91 | omega)) (by first | omega | ((try (have i_t8 := Imp.go t8 (imp_a (rgz4.1) (rgz4.2) (f24)))); omega) | ((try (have i_t71 := Imp.go t71 (by omega))); (try (have i_t36 := Imp.go t36 (by omega))); (try (have i_t35 := Imp.go t35 (by omega))); (try (have i_t8 := Imp.go t8 (by omega))); first | omega | ((try (have i_t7 := Imp.go t7 (by omega))); (try (have i_t7 := Imp.go t7 (by omega))); (try (have i_t8 := Imp.go t8 (by omega))); (try (have i_t35 := Imp.go t35 (by omega))); (try (have i_t36 := Imp.go t36 (by omega))); (try (have i_t71 := Imp.go t71 (by omega))); omega))) (by (first | exact om_b787ba99808b pr78 pr79 | omega)) (by (first | exact om_4e8b08cf8437  | omega)) (fun _ => ⟨by (first | exact om_b297bb3a48c9 pr78 pr79 | omega), fun _ => ⟨by (first | exact om_be170cf4a9de pr78 | omega), by (first | exact om_0f64ea775313 pr78 pr79 | omega)⟩⟩)) (fun h => absurd h (by (first | exact om_24e825b16e57 pr74 h | omega))) (by (first | exact om_88fd68e7dbcb t66 | omega)) (by (first | exact om_fc45e0da1856 t68 | omega))
        have fe9 := Imp.go t71 (by (first | exact om_d976b7bf2e15 dp9 r3 kdp rd rd2 pq51 | omega))
        have fi9 : (V 5 6).toInt.toNat = f63 := by (first | exact om_317958a246fc dp9 r3 kdp rd rd2 pq51 t66 fe9 | omega)
        have me97 : ME V43 V60 f63 := (ME.tr ME.rf t64)
        have me98 : ME V V10 f63 := (ME.up (ME.up ME.rf hV20 (Or.inr (by (first | exact om_98aee353de00  | omega)))) hV10 (Or.inr (by (first | exact om_4b1deb63f5fb  | omega))))
        have wr99 : (V60 67 f63).toInt = 1 := (congrArg Int32.toInt t65.1).trans (by decide)
        have wr100 : (V60 68 f63).toInt = 0 := (congrArg Int32.toInt t65.2.1).trans (by decide)
        have wr101 : (V60 69 f63).toInt = p2.toInt := (congrArg Int32.toInt t70.1)
        have wr102 : (V60 70 f63).toInt = z28.toInt := (congrArg Int32.toInt t65.2.2.1)
        have wr103 : (V60 71 f63).toInt = p0.toInt := (congrArg Int32.toInt t65.2.2.2.1)
        have wr104 : (V60 72 f63).toInt = p1.toInt := (congrArg Int32.toInt t70.2.1)
        have wr105 : (V60 75 f63).toInt = 0 := (congrArg Int32.toInt t65.2.2.2.2.1).trans (by decide)
        have wr106 : (V60 76 f63).toInt = 0 := (congrArg Int32.toInt t65.2.2.2.2.2).trans (by decide)
        have ix9 : f63 = gfs.length := by (first | exact om_dc58cf8d3084 kdp rd rd2 pq51 t66 fe9 | omega)
        have oz9 : Int32.toNatClampNeg (V10 3 13) = (gm 0 2).toNat := by have h9 := i_clamp (x := V10 3 13) rfl (by (first | exact om_90ebb7ef35e1 ra2 pq45 r46 ko1 | omega)); (first | exact om_97b64b222c67 ra2 pq45 r46 ko1 | omega)
        obtain ⟨⟨ow8, rn8⟩, _⟩ := rw25
        have nb9 := Imp.go t32 (by (first | exact om_e3b1d6ac9ce8 rgz28.1 f49 | omega))
        rw [oz9] at nb9
        have nc9 := Imp.go t33 (by (first | exact om_e3b1d6ac9ce8 rgz28.1 f49 | omega))
        rw [oz9] at nc9
        have nd9 := Imp.go t34 (by (first | exact om_e3b1d6ac9ce8 rgz28.1 f49 | omega))
        rw [oz9] at nd9
        have ne9 := Imp.go t37 (by (first | exact om_e3b1d6ac9ce8 rgz28.1 f49 | omega))
        rw [oz9] at ne9
        have nf9 := Imp.go t40 (by (first | exact om_e3b1d6ac9ce8 rgz28.1 f49 | omega))
        rw [oz9] at nf9
        have ng9 := Imp.go t41 (by (first | exact om_e3b1d6ac9ce8 rgz28.1 f49 | omega))
        have rn7 : RWn V43 ow8 gB (mNew (mSt gm) ((p0.toInt.toNat : Nat) : Int) ((p1.toInt.toNat : Nat) : Int)) := RWn.new rn8 (show mSt gm 0 2 = (((gm 0 2).toNat : Nat) : Int) from by rw [mSt_o (by omega)]; omega) (show p0.toInt.toNat < nC gB from by (first | exact om_f3670f831c1f rg_p0.1 cp9 | omega)) n24 (show ((p1.toInt.toNat : Nat) : Int) < (V10 3 12).toInt from by rw [((up2_o hV10 (by decide)).trans (up2_o hV20 (by decide)))]; omega) (fun h9 => by rw [mSt_o (by omega), prs_st, show ((p0.toInt.toNat : Nat) : Int) = p0.toInt from by omega, show ((p1.toInt.toNat : Nat) : Int) = p1.toInt from by omega]; exact hu9 h9) (by have h9 := Imp.go t35 (by (first | exact om_e3b1d6ac9ce8 rgz28.1 f49 | omega)); omega) nd9 (by rw [ne9]; omega) (fun x9 hx9 => (nf9.2.2 x9 hx9).1) (by rw [nf9.1]; omega) (fun x9 hx9 => (nf9.2.2 x9 hx9).2) nf9.2.1 nc9 nb9 (fun x9 hx9 => ng9.elim (fun h9 => h9.2.2 x9 hx9) (fun h9 => h9.2 x9)) (fun h9 => ng9.elim (fun h8 => by rw [show 24 * p1.toInt.toNat + p0.toInt.toNat = 24 * Int32.toNatClampNeg p1 + Int32.toNatClampNeg p0 from rfl, h8.2.1]; have h7 := Imp.go t35 (by (first | exact om_e3b1d6ac9ce8 rgz28.1 f49 | omega)); omega) (fun h8 => by have h7 := h8.1; rcases sh9 with h6 | h6; (exfalso; exact h6.1 h7); exact absurd h6.2 h9)) (fun c9 k9 h1 h2 h3 h4 h5 h6 h7 => (agr_bo ajV43 h2 h3 h4 h5 h6 h7))
        have rn6 : RWn V60 ow8 gB (mU (mNew (mSt gm) p0.toInt p1.toInt) 0 6 0) := by rw [show ((p0.toInt.toNat : Nat) : Int) = p0.toInt from by omega, show ((p1.toInt.toNat : Nat) : Int) = p1.toInt from by omega] at rn7; exact RWn.mv rn7 (fun j9 hj9 => mU_06 (Or.inr (by omega))) (fun x9 j9 hx9 _ => mU_06 (Or.inl hx9)) (ESw.ag (show agr [(5, 6), (5, 9)] [67, 68, 69, 70, 71, 72, 73, 74, 75, 76, 77, 78, 79, 80, 81, 82, 83, 84, 85] V43 V60 from (agr.tr agr.rf ajV60 (by decide) (by decide))) (by decide)).1 (ESw.ag (show agr [(5, 6), (5, 9)] [67, 68, 69, 70, 71, 72, 73, 74, 75, 76, 77, 78, 79, 80, 81, 82, 83, 84, 85] V43 V60 from (agr.tr agr.rf ajV60 (by decide) (by decide))) (by decide)).2.1 (ESw.ag (show agr [(5, 6), (5, 9)] [67, 68, 69, 70, 71, 72, 73, 74, 75, 76, 77, 78, 79, 80, 81, 82, 83, 84, 85] V43 V60 from (agr.tr agr.rf ajV60 (by decide) (by decide))) (by decide)).2.2.1.1 (ESw.ag (show agr [(5, 6), (5, 9)] [67, 68, 69, 70, 71, 72, 73, 74, 75, 76, 77, 78, 79, 80, 81, 82, 83, 84, 85] V43 V60 from (agr.tr agr.rf ajV60 (by decide) (by decide))) (by decide)).2.2.1.2.1 (ESw.ag (show agr [(5, 6), (5, 9)] [67, 68, 69, 70, 71, 72, 73, 74, 75, 76, 77, 78, 79, 80, 81, 82, 83, 84, 85] V43 V60 from (agr.tr agr.rf ajV60 (by decide) (by decide))) (by decide)).2.2.2.1
        have c13 : (V60 3 13).toInt = (V 3 13).toInt + 1 := by have h9 := Imp.go t35 (by (first | exact om_e3b1d6ac9ce8 rgz28.1 f49 | omega)); have h8 : (V60 3 13).toInt = (V43 3 13).toInt := congrArg Int32.toInt ((ajV60 3 13 rfl)); have h7 : (V10 3 13).toInt = (V 3 13).toInt := congrArg Int32.toInt (((up2_o hV10 (by decide)).trans (up2_o hV20 (by decide)))); omega
        have c12 : V60 3 12 = V 3 12 := ((ajV60 3 12 rfl).trans ((ajV43 3 12 rfl).trans ((up2_o hV10 (by decide)).trans (up2_o hV20 (by decide)))))
        have c12i := congrArg Int32.toInt c12
        have rl7 : RWl V60 gB gfs tw9 := RWl.mv rl (fun i9 hi9 c9 h1 h2 => (me97.2.1 c9 i9 h1 h2 (by omega)).trans ((agr.m67 (show agr [(3, 13)] [25, 26, 27, 28, 30] V10 V43 from (agr.tr agr.rf ajV43 (by decide) (by decide))) (by decide) h1 h2).trans (me98.2.1 c9 i9 h1 h2 (by omega)))) (fun j9 hj9 => ((ajV60 39 j9 rfl).trans ((ajV43 39 j9 rfl).trans ((up2_o hV10 (by decide)).trans (up2_o hV20 (by decide)))))) (by omega) c12
        have zo9 := Imp.go t35 (by (first | exact om_e3b1d6ac9ce8 rgz28.1 f49 | omega))
        have ff9 : FRc V60 gB gfs.length (Fmake p2.toInt (gm 0 2) p0.toInt p1.toInt 0 0) := by rw [← ix9]; exact ⟨⟨by omega, by omega⟩, ⟨by omega, ⟨by omega, by omega, by omega⟩, ⟨by omega, by omega, by omega⟩, ⟨by omega, by omega, by omega⟩⟩, by omega, by omega⟩
        have rz9 : RW V60 gB ((mU (mNew (mSt gm) p0.toInt p1.toInt) 0 6 0), ga, Fmake p2.toInt (gm 0 2) p0.toInt p1.toInt 0 0 :: gfs) := RW.fin (m := gm) rwq rn6 (by rw [mU_o _ _ (by omega), mNw_0 (by omega), mSt_o (by omega)]) (fun i9 => by rw [mU_o _ _ (by omega), mNw_5, mSt_o (by omega)]) ((ajV60 5 8 rfl).trans ((ajV43 5 8 rfl).trans ((up2_k hV10 (by decide)).trans (up2_k hV20 (by decide))))) (fun i9 => ((ajV60 40 i9 rfl).trans ((ajV43 40 i9 rfl).trans ((up2_o hV10 (by decide)).trans (up2_o hV20 (by decide)))))) (by rw [mU_s]; omega) (fun h9 => by rw [mU_s] at h9; exact absurd h9 (by decide)) (fun h9 => by rw [mU_s] at h9; exact absurd h9 (by decide)) (show (V60 5 6).toInt = ((gfs.length + 1 : Nat) : Int) from by omega) (show (V60 5 7).toInt = ((tw9 : Nat) : Int) from by rw [((ajV60 5 7 rfl).trans ((ajV43 5 7 rfl).trans ((up2_k hV10 (by decide)).trans (up2_k hV20 (by decide)))))]; exact rt9) (RWl.push rl7 ff9 rfl (np9 rfl))
        have rx107 : RW V60 gB (makeM gm ga gfs p0.toInt p1.toInt p2.toInt) := by rw [mk_g can9 (by omega)]; exact rz9
        refine W.know (fun kr1 kr2 => ?_)
        refine W.widen (k := zcc Z) (n := zss Z) (Nat.sub_le _ _) (Nat.sub_le _ _) ?_
        exact W.vret hx hb hr (fun t ht hW => ⟨⟨(V60, L, Z62), rfl, ⟨hMV60, agV60, rfl, zoZ62, rp96, rx107⟩, ⟨by rw [ht]; exact hP, va_K.moved hW.alike hK, hD⟩, by rw [ht]; exact kr1, by rw [ht]; exact kr2⟩, hS.F ht⟩) hS.2.2 dX5_beginMaking_46
      · skip
        have f108 : z28.toInt = (-1) := b_eq rfl (by decide) c48
        have meb : ∀ n, ME V10 V43 n := fun n => by rw [Imp.go t38 (by (first | exact om_a870fdf34004 f108 | omega))]; exact ME.rf
        refine lv_aload_n hx hb dX5_beginMaking_27 rfl (lv_at hl 1 rfl) ?_
        refine lv_iconst (v := 0) hx hb dX5_beginMaking_28 (by decide) ?_
        refine lv_bipush (v := 16) hx hb dX5_beginMaking_29 (by decide) ?_
        have r109 : Int32.toInt 0 = 0 := by decide
        have r110 : Int32.toInt 16 = 16 := by decide
        refine gA_void (gA_runV (As := [.int 0, .int 16]) (rest := []) (ci := 5) (q0 := 5) hx hb hml hown hg hP hD hK hS hA hnw hgk (x_failWith9 l D ks H.size ad kk V43 L Z 0 16 hMV43 ) w1261 w1263 w46 w171 w1264 rfl xgMachine hdV_yX5_failWith ⟨Nat.le_of_ble_eq_true rfl, Nat.le_of_ble_eq_true rfl⟩ rfl hl.1 rfl (Nat.le_of_ble_eq_true rfl) dX5_beginMaking_31 ⟨z0, z0⟩) hP hD hK hS hA (fun u112 H locs w113 hP hD hK hS => ?_)
        obtain ⟨V116, L117⟩ := u112
        obtain ⟨hMV116, ajV116, axL117, t114, t115⟩ := w113
        have axL117 : L = L117 := Eq.symm axL117
        subst axL117
        replace hP : va_P D vwCl (xw ad kk V116 L Z) H := hP
        replace hD : va_D A (xw ad kk V116 L Z) := hD
        replace hMV116 : rgd bX V116 := hMV116
        replace ajV116 : agr [(5, 9), (5, 11), (5, 12)] [] V43 V116 := ajV116
        have agV116 : agr [(3, 13), (5, 6), (5, 9), (5, 11), (5, 12), (5, 13), (5, 14)] [25, 26, 27, 28, 30, 67, 68, 69, 70, 71, 72, 73, 74, 75, 76, 77, 78, 79, 80, 81, 82, 83, 84, 85] V V116 := agV43.tr ajV116 (by decide) (by decide)
        replace t114 : (V116 5 9).toInt = 2 := t114
        replace t115 : ((True) ∧ V116 = (up2 (up2 (up2 V43 5 9 2) 5 11 0) 5 12 16)) := t115
        have r118 : 0 ≤ ((V116 5 9)).toInt ∧ ((V116 5 9)).toInt ≤ 3 := hMV116 5 9
        have hw119 := t115.2
        obtain ⟨V120, hV120⟩ : ∃ z, z = up2 V43 5 9 2 := ⟨_, rfl⟩
        obtain ⟨V121, hV121⟩ : ∃ z, z = up2 V120 5 11 0 := ⟨_, rfl⟩
        have hV116 : V116 = up2 V121 5 12 16 := by rw [hw119, hV121, hV120]
        have me122 : ME V V116 400 := (ME.up (ME.up (ME.up (ME.tr (ME.up (ME.up ME.rf hV20 (Or.inr (by (first | exact om_98aee353de00  | omega)))) hV10 (Or.inr (by (first | exact om_4b1deb63f5fb  | omega)))) (meb _)) hV120 (Or.inr (by (first | exact om_620f5006bfaa  | omega)))) hV121 (Or.inr (by (first | exact om_ded18bf8e7e5  | omega)))) hV116 (Or.inr (by (first | exact om_82aabbaa6769  | omega))))
        have mt123 : MTw V116 Z b := MTw.me mt me122 ((up2_k hV116 (by first | exact om_7395dabbef6e  | first | omega | ((try (have i_t36 := Imp.go t36 (f108))); (try (have i_t8 := Imp.go t8 (imp_a (rgz4.1) (rgz4.2) (f24)))); omega) | ((try (have i_t36 := Imp.go t36 (by omega))); (try (have i_t35 := Imp.go t35 (by omega))); (try (have i_t8 := Imp.go t8 (by omega))); (try (have i_t7 := Imp.go t7 (by omega))); first | omega | ((try (have i_t7 := Imp.go t7 (by omega))); (try (have i_t8 := Imp.go t8 (by omega))); (try (have i_t35 := Imp.go t35 (by omega))); (try (have i_t36 := Imp.go t36 (by omega))); omega)))).trans ((up2_k hV121 (by first | exact om_e32866c5f886  | first | omega | ((try (have i_t36 := Imp.go t36 (f108))); (try (have i_t8 := Imp.go t8 (imp_a (rgz4.1) (rgz4.2) (f24)))); omega) | ((try (have i_t36 := Imp.go t36 (by omega))); (try (have i_t35 := Imp.go t35 (by omega))); (try (have i_t8 := Imp.go t8 (by omega))); (try (have i_t7 := Imp.go t7 (by omega))); first | omega | ((try (have i_t7 := Imp.go t7 (by omega))); (try (have i_t8 := Imp.go t8 (by omega))); (try (have i_t35 := Imp.go t35 (by omega))); (try (have i_t36 := Imp.go t36 (by omega))); omega)))).trans ((up2_k hV120 (by first | exact om_88c4fa396ee7  | first | omega | ((try (have i_t36 := Imp.go t36 (f108))); (try (have i_t8 := Imp.go t8 (imp_a (rgz4.1) (rgz4.2) (f24)))); omega) | ((try (have i_t36 := Imp.go t36 (by omega))); (try (have i_t35 := Imp.go t35 (by omega))); (try (have i_t8 := Imp.go t8 (by omega))); (try (have i_t7 := Imp.go t7 (by omega))); first | omega | ((try (have i_t7 := Imp.go t7 (by omega))); (try (have i_t8 := Imp.go t8 (by omega))); (try (have i_t35 := Imp.go t35 (by omega))); (try (have i_t36 := Imp.go t36 (by omega))); omega)))).trans ((ajV43 5 6 rfl).trans ((up2_k hV10 (by first | exact om_c65d3c514e09  | first | omega | ((try (have i_t36 := Imp.go t36 (f108))); (try (have i_t8 := Imp.go t8 (imp_a (rgz4.1) (rgz4.2) (f24)))); omega) | ((try (have i_t36 := Imp.go t36 (by omega))); (try (have i_t35 := Imp.go t35 (by omega))); (try (have i_t8 := Imp.go t8 (by omega))); (try (have i_t7 := Imp.go t7 (by omega))); first | omega | ((try (have i_t7 := Imp.go t7 (by omega))); (try (have i_t8 := Imp.go t8 (by omega))); (try (have i_t35 := Imp.go t35 (by omega))); (try (have i_t36 := Imp.go t36 (by omega))); omega)))).trans (up2_k hV20 (by first | exact om_de3511eb9b8b  | first | omega | ((try (have i_t36 := Imp.go t36 (f108))); (try (have i_t8 := Imp.go t8 (imp_a (rgz4.1) (rgz4.2) (f24)))); omega) | ((try (have i_t36 := Imp.go t36 (by omega))); (try (have i_t35 := Imp.go t35 (by omega))); (try (have i_t8 := Imp.go t8 (by omega))); (try (have i_t7 := Imp.go t7 (by omega))); first | omega | ((try (have i_t7 := Imp.go t7 (by omega))); (try (have i_t8 := Imp.go t8 (by omega))); (try (have i_t35 := Imp.go t35 (by omega))); (try (have i_t36 := Imp.go t36 (by omega))); omega)))))))))
        have pq124 : (V116 5 9).toInt = 2 := (congrArg Int32.toInt ((up2_k hV116 (by decide)).trans ((up2_k hV121 (by decide)).trans (up2_s hV120)))).trans (by decide)
        have rp125 : MJ V116 Z b := MTw.mj mt123 (fun q => absurd q.1 (by first | exact om_43d8e2139c68 t114 | first | omega | ((try (have i_t36 := Imp.go t36 (f108))); (try (have i_t8 := Imp.go t8 (imp_a (rgz4.1) (rgz4.2) (f24)))); omega) | ((try (have i_t36 := Imp.go t36 (by omega))); (try (have i_t35 := Imp.go t35 (by omega))); (try (have i_t8 := Imp.go t8 (by omega))); (try (have i_t7 := Imp.go t7 (by omega))); first | omega | ((try (have i_t7 := Imp.go t7 (by omega))); (try (have i_t8 := Imp.go t8 (by omega))); (try (have i_t35 := Imp.go t35 (by omega))); (try (have i_t36 := Imp.go t36 (by omega))); omega))))
        have eo9 : V43 = V10 := Imp.go t38 (by (first | exact om_a870fdf34004 f108 | omega))
        have eo8 : ESw V10 V43 := by rw [eo9]; exact ESw.rf
        have me126 : ME V V10 gfs.length := (ME.up (ME.up ME.rf hV20 (Or.inr (by (first | exact om_98aee353de00  | omega)))) hV10 (Or.inr (by (first | exact om_4b1deb63f5fb  | omega))))
        have rl127 : RWl V10 gB gfs tw9 := RWl.mv rl (fun i9 hi9 c9 h1 h2 => me126.2.1 c9 i9 h1 h2 hi9) (fun j9 hj9 => ((up2_o hV10 (by decide)).trans (up2_o hV20 (by decide)))) (by rw [((up2_o hV10 (by decide)).trans (up2_o hV20 (by decide)))]; exact Int.le_refl _) ((up2_o hV10 (by decide)).trans (up2_o hV20 (by decide)))
        have rl8 : RWl V43 gB gfs tw9 := by rw [eo9]; exact rl127
        have pq129 : (V116 5 6).toInt = ((V 5 6)).toInt := congrArg Int32.toInt ((up2_k hV116 (by decide)).trans ((up2_k hV121 (by decide)).trans ((up2_k hV120 (by decide)).trans ((ajV43 5 6 rfl).trans ((up2_k hV10 (by decide)).trans (up2_k hV20 (by decide)))))))
        have pq130 : (V116 5 7).toInt = ((V 5 7)).toInt := congrArg Int32.toInt ((up2_k hV116 (by decide)).trans ((up2_k hV121 (by decide)).trans ((up2_k hV120 (by decide)).trans ((ajV43 5 7 rfl).trans ((up2_k hV10 (by decide)).trans (up2_k hV20 (by decide)))))))
        have r131 : 0 ≤ ((V 5 7)).toInt ∧ ((V 5 7)).toInt ≤ 2048 := hMV 5 7
        have pq132 : (V116 5 11).toInt = 0 := (congrArg Int32.toInt ((up2_k hV116 (by decide)).trans (up2_s hV121))).trans (by decide)
        have pq133 : (V116 5 12).toInt = 16 := (congrArg Int32.toInt (up2_s hV116)).trans (by decide)
        have me134 : ME V43 V116 gfs.length := (ME.up (ME.up (ME.up ME.rf hV120 (Or.inr (by (first | exact om_620f5006bfaa  | omega)))) hV121 (Or.inr (by (first | exact om_ded18bf8e7e5  | omega)))) hV116 (Or.inr (by (first | exact om_82aabbaa6769  | omega))))
        have rl135 : RWl V116 gB gfs tw9 := RWl.mv rl8 (fun i9 hi9 c9 h1 h2 => me134.2.1 c9 i9 h1 h2 hi9) (fun j9 hj9 => ((up2_o hV116 (by decide)).trans ((up2_o hV121 (by decide)).trans (up2_o hV120 (by decide))))) (by rw [((up2_o hV116 (by decide)).trans ((up2_o hV121 (by decide)).trans (up2_o hV120 (by decide))))]; exact Int.le_refl _) ((up2_o hV116 (by decide)).trans ((up2_o hV121 (by decide)).trans (up2_o hV120 (by decide))))
        have tp8 : (V116 5 7).toInt = ((tw9 : Nat) : Int) := by rw [((up2_k hV116 (by decide)).trans ((up2_k hV121 (by decide)).trans ((up2_k hV120 (by decide)).trans ((ajV43 5 7 rfl).trans ((up2_k hV10 (by decide)).trans (up2_k hV20 (by decide)))))))]; exact rt9
        have rz9 : RW V116 gB (mU (mU (mU (mSt gm) 0 6 2) 0 8 0) 0 9 16, ga, gfs) := RW.fl rw25 (ESw.tr eo8 (ESw.ag (show agr [(5, 9), (5, 11), (5, 12)] [] V43 V116 from (agr.up (agr.up (agr.up agr.rf hV120 rfl) hV121 rfl) hV116 rfl)) (by decide))) (by (first | exact om_6aa5e6f8c558 t114 | omega)) (by (first | exact om_b66ba74381d5 pq132 | omega)) (by (first | exact om_053a3cd9027f pq133 | omega)) (show (V116 5 6).toInt = ((gfs.length : Nat) : Int) from by (first | exact om_375053e3640d kdp rd rd2 pq129 | omega)) tp8 rl135
        have rx128 : RW V116 gB (makeM gm ga gfs p0.toInt p1.toInt p2.toInt) := by rw [mk_t can9 (by (first | exact om_8179d176c6a8 ra2 t42 pq45 r46 f108 | omega))]; exact rz9
        refine W.know (fun kr1 kr2 => ?_)
        refine W.widen (k := zcc Z) (n := zss Z) (Nat.sub_le _ _) (Nat.sub_le _ _) ?_
        exact W.vret hx hb hr (fun t ht hW => ⟨⟨(V116, L, Z), rfl, ⟨hMV116, agV116, rfl, zoZ, rp125, rx128⟩, ⟨by rw [ht]; exact hP, va_K.moved hW.alike hK, hD⟩, by rw [ht]; exact kr1, by rw [ht]; exact kr2⟩, hS.F ht⟩) hS.2.2 dX5_beginMaking_34
    · skip
      have f136 : z4.toInt = 0 := b_eq rfl (by decide) c23
      exfalso; first | exact om_442f6acc4638 hc14 f136 | first | omega | ((try (have i_t8 := Imp.go t8 (by omega))); (try (have i_t7 := Imp.go t7 (by omega))); (try (have i_t7 := Imp.go t7 (by omega))); (try (have i_t8 := Imp.go t8 (by omega))); omega)
  · skip
    have hV10 : V10 = up2 V 5 9 3 := by rw [hw17]
    refine lv_if_ne (tgt := 8) hx hb dX5_beginMaking_4 (by decide) (fun c137 => ?_) (fun c137 => ?_)
    · skip
      have f138 : z4.toInt ≠ 0 := b_neq rfl (by decide) c137
      exfalso; first | exact om_6c28a3e4706f hc16 f138 | first | omega | ((try (have i_t8 := Imp.go t8 (by omega))); (try (have i_t7 := Imp.go t7 (by omega))); (try (have i_t7 := Imp.go t7 (by omega))); (try (have i_t8 := Imp.go t8 (by omega))); omega)
    · skip
      have f139 : z4.toInt = 0 := b_eq rfl (by decide) c137
      have me140 : ME V V10 400 := (ME.up ME.rf hV10 (Or.inr (by (first | exact om_620f5006bfaa  | omega))))
      have mt141 : MTw V10 Z b := MTw.me mt me140 (up2_k hV10 (by first | exact om_88c4fa396ee7  | first | omega | ((try (have i_t8 := Imp.go t8 (by omega))); (try (have i_t7 := Imp.go t7 (by omega))); (try (have i_t7 := Imp.go t7 (by omega))); (try (have i_t8 := Imp.go t8 (by omega))); omega)))
      have pq142 : (V10 5 9).toInt = 3 := (congrArg Int32.toInt (up2_s hV10)).trans (by decide)
      have rp143 : MJ V10 Z b := MTw.mj mt141 (fun q => absurd q.1 (by first | exact om_a3a9ae5c6b89 pq142 | first | omega | ((try (have i_t8 := Imp.go t8 (by omega))); (try (have i_t7 := Imp.go t7 (by omega))); (try (have i_t7 := Imp.go t7 (by omega))); (try (have i_t8 := Imp.go t8 (by omega))); omega)))
      have me145 : ME V V10 gfs.length := (ME.up ME.rf hV10 (Or.inr (by (first | exact om_620f5006bfaa  | omega))))
      have rl146 : RWl V10 gB gfs tw9 := RWl.mv rl (fun i9 hi9 c9 h1 h2 => me145.2.1 c9 i9 h1 h2 hi9) (fun j9 hj9 => (up2_o hV10 (by decide))) (by rw [(up2_o hV10 (by decide))]; exact Int.le_refl _) (up2_o hV10 (by decide))
      have pq147 : (V10 5 6).toInt = ((V 5 6)).toInt := congrArg Int32.toInt (up2_k hV10 (by decide))
      have pq148 : (V10 5 7).toInt = ((V 5 7)).toInt := congrArg Int32.toInt (up2_k hV10 (by decide))
      have r149 : 0 ≤ ((V 5 7)).toInt ∧ ((V 5 7)).toInt ≤ 2048 := hMV 5 7
      have pq150 : (V10 5 11).toInt = ((V 5 11)).toInt := congrArg Int32.toInt (up2_k hV10 (by decide))
      have pq151 : (V10 5 12).toInt = ((V 5 12)).toInt := congrArg Int32.toInt (up2_k hV10 (by decide))
      have rz9 : RW V10 gB (mU gm 0 6 3, ga, gfs) := RW.sgn rwq (ESw.ag (show agr [(5, 9)] [] V V10 from (agr.up agr.rf hV10 rfl)) (by decide)) (by (first | exact om_395e3da5ee0d pq142 | omega)) (fun h9 => absurd h9 (by decide)) (fun h9 => absurd h9 (by decide)) (show (V10 5 6).toInt = ((gfs.length : Nat) : Int) from by (first | exact om_375053e3640d kdp rd rd2 pq147 | omega)) (show (V10 5 7).toInt = ((tw9 : Nat) : Int) from by rw [(up2_k hV10 (by decide))]; exact rt9) rl146
      have rx144 : RW V10 gB (makeM gm ga gfs p0.toInt p1.toInt p2.toInt) := by rw [mk_p (fun h9 => by have h1 := rn.1.1.1; have h2 := rn.1.1.2.1; have h3 := h9.1; have h4 := h9.2; omega)]; exact rz9
      refine W.know (fun kr1 kr2 => ?_)
      refine W.widen (k := zcc Z) (n := zss Z) (Nat.sub_le _ _) (Nat.sub_le _ _) ?_
      exact W.vret hx hb hr (fun t ht hW => ⟨⟨(V10, L, Z), rfl, ⟨hMV10, agV10, rfl, zoZ, rp143, rx144⟩, ⟨by rw [ht]; exact hP, va_K.moved hW.alike hK, hD⟩, by rw [ht]; exact kr1, by rw [ht]; exact kr2⟩, hS.F ht⟩) hS.2.2 dX5_beginMaking_7
abbrev r_x_seek9 (Z : XZ) : Room := { frames := 4, cells := zcc Z, slots := zss Z, locals := 95 }
abbrev q_x_seek9 (D : va_G) (ks : KS) (ad : Nat → Nat) (kk : Nat → ClassId) (V : Vf) (L : Lf) (Z : XZ) (p0 : Int32) (p1 : Int32) (p2 : Int32) (b : Nat) (gB : Bk) (gm : Mm) (ga : Int32) (gfs : List Fr) (A : Nat → Prop) : Array Value → State → Outcome → State → Prop := qZv D (fun (u : Vf × Lf × XZ) => rgd bX u.1 ∧ agr [(3, 13), (5, 6), (5, 9), (5, 10), (5, 11), (5, 12), (5, 13), (5, 14)] [25, 26, 27, 28, 30, 67, 68, 69, 70, 71, 72, 73, 74, 75, 76, 77, 78, 79, 80, 81, 82, 83, 84, 85] V u.1 ∧ u.2.1 = L ∧ ZL Z u.2.2 ∧ (MJ u.1 u.2.2 b) ∧ (RW u.1 gB (seekM gB gm ga gfs p0.toInt p1.toInt p2.toInt))) (fun u => xw ad kk u.1 u.2.1 u.2.2) (fun u => xty kk u.2.2) (fun u => zcc Z - zcc u.2.2) (fun u => zss Z - zss u.2.2) A
set_option maxHeartbeats 4000000 in
set_option maxRecDepth 100000 in
theorem x_seek9 (l : Launch) (D : va_G) (ks : KS) (sz : Nat) (ad : Nat → Nat) (kk : Nat → ClassId) (V : Vf) (L : Lf) (Z : XZ) (p0 : Int32) (p1 : Int32) (p2 : Int32) (b : Nat) (gB : Bk) (gm : Mm) (ga : Int32) (gfs : List Fr) (hMV : rgd bX V) (rg_p0 : (-1) ≤ p0.toInt ∧ p0.toInt ≤ 24) (rg_p1 : 0 ≤ p1.toInt ∧ p1.toInt ≤ 39) (hb2 : b < 2) (mt : MTw V Z b) (rwq : RW V gB (gm, ga, gfs)) (bc : BKc V b gB) (dp9 : (V 5 6).toInt ≤ 395) (cp8 : 0 ≤ p0.toInt) (cp9 : p0.toInt < ((nC gB : Nat) : Int)) (sc8 : 0 ≤ p1.toInt) (sc9 : p1.toInt < (V 3 12).toInt)  : Met l yX5_seek (Cond.code yX5_seek cX5_seek 7 none :: GW) (r_x_seek9 Z) (va_Pc [.ref (ad 5), .int p0, .int p1, .int p2] (gp D ks (xw ad kk V L Z) (xty kk Z) sz)) (q_x_seek9 D ks ad kk V L Z p0 p1 p2 b gB gm ga gfs (va_A (xw ad kk V L Z) sz)) (zcc Z) (zss Z) (va_A (xw ad kk V L Z) sz) := by
  refine g_met (q_x_seek9 D ks ad kk V L Z p0 p1 p2 b gB gm ga gfs) (by decide) (Nat.le_of_ble_eq_true rfl) ?_
  intro p e s m below meth c A ls H locs hx hb hr hml hown hg hlocks hin hnw hgk hP hK hD hS hA hl
  replace hown : s.vm.findClass RX5 = some m.cls := hown
  replace hl : lv_has ls 7 [(0, .ref (ad 5)), (1, .int p0), (2, .int p1), (3, .int p2)] := hl
  replace hP : va_P D vwCl (xw ad kk V L Z) H := hP
  replace hD : va_D A (xw ad kk V L Z) := hD
  replace hK : va_K D vwCl (xty kk Z) s := hK
  have agV : agr [(3, 13), (5, 6), (5, 9), (5, 10), (5, 11), (5, 12), (5, 13), (5, 14)] [25, 26, 27, 28, 30, 67, 68, 69, 70, 71, 72, 73, 74, 75, 76, 77, 78, 79, 80, 81, 82, 83, 84, 85] V V := agr.rf
  have zoZ : ZL Z Z := ZL.rf
  refine W.know (fun ka kb => ?_)
  refine W.tight (k := zcc Z - zcc Z) (n := zss Z - zss Z) (by (first | exact om_7244b830ee02 ka | omega)) (by (first | exact om_7244b830ee02 kb | omega)) ?_
  have r1 : 0 ≤ ((V 5 6)).toInt ∧ ((V 5 6)).toInt ≤ 400 := hMV 5 6
  have kdp := i_clamp (x := V 5 6) rfl (by (first | exact om_15fbfed9592e dp9 r1 | omega))
  have hdn := MTw.dn mt (by (first | exact om_59e4c643e840 dp9 r1 kdp | omega))
  have mup := MTw.up mt
  have msz := mup.1
  have mbk := mup.2.2.2.1
  have m1 : Int32.toInt (-1) = -1 := by decide
  have rw0 := rwq
  obtain ⟨⟨ow, rn⟩, rh, rd, tw9, rt9, rl⟩ := rw0
  replace rn : RWn V ow gB gm := rn
  replace rh : RWh V gm ga := rh
  have rd2 : (V 5 6).toInt = ((gfs.length : Nat) : Int) := rd
  have rh1 : (V 5 9).toInt = gm 0 6 := rh.1
  have ra2 : (V 3 13).toInt = gm 0 2 := rn.1.1.2.2.1
  have n24 : nC gB ≤ 24 := bc.2.2.2.1.2.1
  have sz9 : (V 43 (5 * b + 2)).toInt = ((nC gB : Nat) : Int) := bc.2.2.2.1.1
  have s51 : (V 51 (24 * b + Int32.toNatClampNeg p0)).toInt = ((bS gB p0.toInt.toNat : Nat) : Int) := BKc.sc bc (show p0.toInt.toNat < nC gB from by (first | exact om_b96529cebcc1 cp9 mup n24 sz9 | omega))
  refine lv_aload_n hx hb dX5_seek_0 rfl (lv_at hl 0 rfl) ?_
  refine va_get (D := D) (ci := 5) (v := .ref (ad (38 + Int32.toNatClampNeg (V 5 5)))) (fs := (xfMachine ad V L Z)) (C := RX5) (T := TX5) (N := 15) hx hb hg inX5 hown hK hP 5 xgMachine rfl 5 (by decide) (hg _ w672) (fun _ h9 => h9) rfl dX5_seek_1 ?_
  have r2 : 0 ≤ ((V 5 5)).toInt ∧ ((V 5 5)).toInt ≤ 1 := hMV 5 5
  refine g_topv (v := .ref (ad (38 + b))) (rfP (by (first | exact om_c62f5505ba8e mup | omega))) ?_
  refine lv_iload_n hx hb dX5_seek_4 rfl (lv_at hl 1 rfl) ?_
  refine gA_int (gA_runV (As := [.int p0]) (rest := []) (ci := 0) (q0 := (38 + b)) hx hb hml hown hg hP hD hK hS hA hnw hgk (x_bhas9 l D ks H.size ad kk V L Z p0 (b) hMV (show b < 2 from by (first | exact om_289974d36c9f hb2 mup | omega))) w1260 w1138 w1139 w167 w1140 rfl (xgBook hb2) hdV_yX0_has ⟨Nat.le_of_ble_eq_true rfl, Nat.le_of_ble_eq_true rfl⟩ rfl hl.1 rfl (Nat.le_of_ble_eq_true rfl) dX5_seek_5 ⟨z0, z0⟩) hP hD hK hS hA (fun z3 u4 H locs w5 hP hD hK hS => ?_)
  obtain ⟨rgz3, t6, t7⟩ := w5
  replace rgz3 : 0 ≤ z3.toInt ∧ z3.toInt ≤ 1 := rgz3
  replace t6 : Imp (z3.toInt = 1) (0 ≤ p0.toInt ∧ p0.toInt < (V 43 (5 * b + 2)).toInt) := t6
  replace t7 : (z3.toInt = 1 ∧ 0 ≤ p0.toInt ∧ p0.toInt < (V 43 (5 * b + 2)).toInt) ∨ (z3.toInt = 0 ∧ (p0.toInt < 0 ∨ (V 43 (5 * b + 2)).toInt ≤ p0.toInt)) := t7
  refine lv_if_ne (tgt := 19) hx hb dX5_seek_8 (by decide) (fun c8 => ?_) (fun c8 => ?_)
  · skip
    have f9 : z3.toInt ≠ 0 := b_neq rfl (by decide) c8
    have rh10 := Imp.go t6 (by (first | exact om_c7d7c2afe6e6 rgz3 f9 | omega))
    have r11 : 0 ≤ ((V 43 (5 * b + 2))).toInt ∧ ((V 43 (5 * b + 2))).toInt ≤ ((xcap (5 * b + 2) : Nat) : Int) := hMV 43 (5 * b + 2)
    have r12 : xcap (5 * b + 2) = 24 := xcap_2
    refine lv_aload_n hx hb dX5_seek_19 rfl (lv_at hl 0 rfl) ?_
    refine va_get (D := D) (ci := 5) (v := .ref (ad (38 + Int32.toNatClampNeg (V 5 5)))) (fs := (xfMachine ad V L Z)) (C := RX5) (T := TX5) (N := 15) hx hb hg inX5 hown hK hP 5 xgMachine rfl 5 (by decide) (hg _ w672) (fun _ h9 => h9) rfl dX5_seek_20 ?_
    refine g_topv (v := .ref (ad (38 + b))) (rfP (by first | exact om_c62f5505ba8e mup | first | omega | ((try (have i_t6 := Imp.go t6 (by omega))); omega))) ?_
    refine va_getN (D := D) (ci := 0) (v := .ref (ad (64 + b))) (fs := (xfBook ad V b)) (C := RX0) (T := TX0) (N := 13) hx hb hg inX0 hown hK hP (38 + b) (xgBook hb2) rfl 7 (by decide) (hnw.use 618 n618 rfl) (fun _ h9 => h9) rfl dX5_seek_23 ?_
    refine lv_iload_n hx hb dX5_seek_26 rfl (lv_at hl 1 rfl) ?_
    have il13 : b < 2 := by first | exact om_289974d36c9f hb2 mup | first | omega | ((try (have i_t6 := Imp.go t6 (by omega))); omega)
    refine va_aldq (D := D) (i := p0) hx hb hK hP (64 + b) (57 + b) (xgcomps il13) (xtcomps il13) (i_in (a := p0.toInt) rfl (by first | exact om_9e61addcb124 rg_p0 cp8 cp9 mup n24 sz9 | first | omega | ((try (have i_t6 := Imp.go t6 (by omega))); omega))) dX5_seek_27 ?_
    have kc14 := i_clamp (x := p0) rfl (by first | exact om_d56fb3fe5b9d rg_p0 cp8 | first | omega | ((try (have i_t6 := Imp.go t6 (by omega))); omega))
    refine g_topv (v := .ref (ad (72 + (24 * b + (Int32.toNatClampNeg p0))))) (congrArg va_rf (if_pos (by first | exact om_936c69b2297a rg_p0 cp8 cp9 sz9 r11 r12 kc14 | first | omega | ((try (have i_t6 := Imp.go t6 (by omega))); omega)))) ?_
    have il15 : (24 * b + (Int32.toNatClampNeg p0)) < 48 := by first | exact om_8d3a23f4bbc3 rg_p0 hb2 cp8 cp9 mup sz9 r11 r12 kc14 | first | omega | ((try (have i_t6 := Imp.go t6 (by omega))); omega)
    refine va_getN (D := D) (ci := 3) (v := .int (V 51 (24 * b + (Int32.toNatClampNeg p0)))) (fs := (xfComp ad V (24 * b + (Int32.toNatClampNeg p0)))) (C := RX3) (T := TX3) (N := 13) hx hb hg inX3 hown hK hP (72 + (24 * b + (Int32.toNatClampNeg p0))) (xgComp il15) rfl 6 (by decide) (hnw.use 522 n522 rfl) (fun _ h9 => h9) rfl dX5_seek_28 ?_
    have r16 : 0 ≤ ((V 51 (24 * b + (Int32.toNatClampNeg p0)))).toInt ∧ ((V 51 (24 * b + (Int32.toNatClampNeg p0)))).toInt ≤ 3 := hMV 51 (24 * b + (Int32.toNatClampNeg p0))
    refine lv_iconst (v := 3) hx hb dX5_seek_31 (by decide) ?_
    refine lv_icmp_eq (tgt := 39) hx hb dX5_seek_32 (by decide) (fun c17 => ?_) (fun c17 => ?_)
    · skip
      have f18 : ((V 51 (24 * b + (Int32.toNatClampNeg p0)))).toInt = 3 := b_eq rfl (by decide) c17
      refine lv_iconst (v := 0) hx hb dX5_seek_39 (by decide) ?_
      refine lv_istore (lv' := [(4, .int 0), (0, .ref (ad 5)), (1, .int p0), (2, .int p1), (3, .int p2)]) hx hb dX5_seek_40 hl (by decide) rfl (fun ls hl => ?_)
      refine lv_aload_n hx hb dX5_seek_42 rfl (lv_at hl 1 rfl) ?_
      refine va_get (D := D) (ci := 5) (v := .ref (ad 3)) (fs := (xfMachine ad V L Z)) (C := RX5) (T := TX5) (N := 15) hx hb hg inX5 hown hK hP 5 xgMachine rfl 0 (by decide) (hg _ w667) (fun _ h9 => h9) rfl dX5_seek_43 ?_
      refine lv_aload_n hx hb dX5_seek_46 rfl (lv_at hl 1 rfl) ?_
      refine va_get (D := D) (ci := 5) (v := .ref (ad (38 + Int32.toNatClampNeg (V 5 5)))) (fs := (xfMachine ad V L Z)) (C := RX5) (T := TX5) (N := 15) hx hb hg inX5 hown hK hP 5 xgMachine rfl 5 (by decide) (hg _ w672) (fun _ h9 => h9) rfl dX5_seek_47 ?_
      refine g_topv (v := .ref (ad (38 + b))) (rfP (by first | exact om_c62f5505ba8e mup | first | omega | ((try (have i_t6 := Imp.go t6 (by omega))); omega))) ?_
      refine va_getN (D := D) (ci := 0) (v := .ref (ad (64 + b))) (fs := (xfBook ad V b)) (C := RX0) (T := TX0) (N := 13) hx hb hg inX0 hown hK hP (38 + b) (xgBook hb2) rfl 7 (by decide) (hnw.use 618 n618 rfl) (fun _ h9 => h9) rfl dX5_seek_50 ?_
      refine lv_iload_n hx hb dX5_seek_53 rfl (lv_at hl 2 rfl) ?_
      refine va_aldq (D := D) (i := p0) hx hb hK hP (64 + b) (57 + b) (xgcomps il13) (xtcomps il13) (i_in (a := p0.toInt) rfl (by first | exact om_a53754c71a25 rg_p0 cp8 cp9 sz9 r11 r12 kc14 | first | omega | ((try (have i_t6 := Imp.go t6 (by omega))); omega))) dX5_seek_54 ?_
      refine g_topv (v := .ref (ad (72 + (24 * b + (Int32.toNatClampNeg p0))))) (congrArg va_rf (if_pos (by first | exact om_936c69b2297a rg_p0 cp8 cp9 sz9 r11 r12 kc14 | first | omega | ((try (have i_t6 := Imp.go t6 (by omega))); omega)))) ?_
      refine va_getN (D := D) (ci := 3) (v := .int (V 51 (24 * b + (Int32.toNatClampNeg p0)))) (fs := (xfComp ad V (24 * b + (Int32.toNatClampNeg p0)))) (C := RX3) (T := TX3) (N := 13) hx hb hg inX3 hown hK hP (72 + (24 * b + (Int32.toNatClampNeg p0))) (xgComp il15) rfl 6 (by decide) (hnw.use 522 n522 rfl) (fun _ h9 => h9) rfl dX5_seek_55 ?_
      refine lv_iload_n hx hb dX5_seek_58 rfl (lv_at hl 3 rfl) ?_
      refine gA_int (gA_runV (As := [.int (V 51 (24 * b + (Int32.toNatClampNeg p0))), .int p1]) (rest := []) (ci := 8) (q0 := 3) hx hb hml hown hg hP hD hK hS hA hnw hgk (x_placeOf9 l D ks H.size ad kk V L Z (V 51 (24 * b + (Int32.toNatClampNeg p0))) p1 hMV (by first | exact om_647482f06eaf rg_p1 | first | omega | ((try (have i_t6 := Imp.go t6 (by omega))); omega))) w1265 w1266 w1267 w164 w1268 rfl xgStock hdV_yX8_placeOf ⟨Nat.le_of_ble_eq_true rfl, Nat.le_of_ble_eq_true rfl⟩ rfl hl.1 rfl (Nat.le_of_ble_eq_true rfl) dX5_seek_59 ⟨z0, z0⟩) hP hD hK hS hA (fun z19 u20 H locs w21 hP hD hK hS => ?_)
      obtain ⟨rgz19, t22⟩ := w21
      replace rgz19 : (-1) ≤ z19.toInt ∧ z19.toInt ≤ 39 := rgz19
      replace t22 : (((V 51 (24 * b + (Int32.toNatClampNeg p0)))).toInt = 0 ∧ z19.toInt = 0) ∨ (((V 51 (24 * b + (Int32.toNatClampNeg p0)))).toInt = 1 ∧ (V 21 (Int32.toNatClampNeg p1)).toInt = 1 ∧ z19.toInt = p1.toInt) ∨ (((V 51 (24 * b + (Int32.toNatClampNeg p0)))).toInt = 1 ∧ (V 21 (Int32.toNatClampNeg p1)).toInt = 2 ∧ z19.toInt = (V 22 (Int32.toNatClampNeg p1)).toInt) ∨ (((V 51 (24 * b + (Int32.toNatClampNeg p0)))).toInt = 1 ∧ (V 21 (Int32.toNatClampNeg p1)).toInt ≠ 1 ∧ (V 21 (Int32.toNatClampNeg p1)).toInt ≠ 2 ∧ z19.toInt = -1) ∨ (((V 51 (24 * b + (Int32.toNatClampNeg p0)))).toInt = 2 ∧ (V 21 (Int32.toNatClampNeg p1)).toInt = 2 ∧ z19.toInt = p1.toInt) ∨ (((V 51 (24 * b + (Int32.toNatClampNeg p0)))).toInt = 2 ∧ (V 21 (Int32.toNatClampNeg p1)).toInt ≠ 2 ∧ z19.toInt = -1) ∨ ((((V 51 (24 * b + (Int32.toNatClampNeg p0)))).toInt < 0 ∨ 2 < ((V 51 (24 * b + (Int32.toNatClampNeg p0)))).toInt) ∧ z19.toInt = p1.toInt) := t22
      refine lv_istore (lv' := [(5, .int z19), (4, .int 0), (0, .ref (ad 5)), (1, .int p0), (2, .int p1), (3, .int p2)]) hx hb dX5_seek_62 hl (by decide) rfl (fun ls hl => ?_)
      have pl9 := RWn.plc9 (sk := bS gB p0.toInt.toNat) rn (show 0 ≤ p1.toInt from by (first | exact om_8b08cc030c6f rg_p1 | omega)) (show p1.toInt < (V 3 12).toInt from by (first | exact om_0e9116797efb sc9 | omega)) s51 (by omega) t22
      refine lv_iload hx hb dX5_seek_64 (lv_at hl 0 rfl) ?_
      refine lv_iconst (v := (-1)) hx hb dX5_seek_66 (by decide) ?_
      refine lv_icmp_ne (tgt := 78) hx hb dX5_seek_67 (by decide) (fun c23 => ?_) (fun c23 => ?_)
      · skip
        have f24 : z19.toInt ≠ (-1) := b_neq rfl (by decide) c23
        refine lv_aload_n hx hb dX5_seek_78 rfl (lv_at hl 2 rfl) ?_
        refine va_get (D := D) (ci := 5) (v := .ref (ad 3)) (fs := (xfMachine ad V L Z)) (C := RX5) (T := TX5) (N := 15) hx hb hg inX5 hown hK hP 5 xgMachine rfl 0 (by decide) (hg _ w667) (fun _ h9 => h9) rfl dX5_seek_79 ?_
        refine lv_iload hx hb dX5_seek_82 (lv_at hl 0 rfl) ?_
        refine lv_iload_n hx hb dX5_seek_84 rfl (lv_at hl 3 rfl) ?_
        refine gA_int (gA_runV (As := [.int z19, .int p0]) (rest := []) (ci := 8) (q0 := 3) hx hb hml hown hg hP hD hK hS hA hnw hgk (x_isSpoiled9 l D ks H.size ad kk V L Z z19 p0 hMV (by first | exact om_4217ce2a7191 rgz19 pl9 f24 | first | omega | ((try (have i_t6 := Imp.go t6 (by omega))); omega)) (show 0 ≤ p0.toInt from by first | exact om_48e09f0ccb53 rg_p0 cp8 kc14 | first | omega | ((try (have i_t6 := Imp.go t6 (by omega))); omega)) (show p0.toInt ≤ 23 from by first | exact om_ec2df5419bb3 rg_p0 cp8 cp9 sz9 r11 r12 kc14 | first | omega | ((try (have i_t6 := Imp.go t6 (by omega))); omega))) w1269 w1270 w1271 w164 w1272 rfl xgStock hdV_yX8_isSpoiled ⟨Nat.le_of_ble_eq_true rfl, Nat.le_of_ble_eq_true rfl⟩ rfl hl.1 rfl (Nat.le_of_ble_eq_true rfl) dX5_seek_85 ⟨z0, z0⟩) hP hD hK hS hA (fun z25 u26 H locs w27 hP hD hK hS => ?_)
        obtain ⟨rgz25, t28⟩ := w27
        replace rgz25 : 0 ≤ z25.toInt ∧ z25.toInt ≤ 1 := rgz25
        replace t28 : (z25.toInt = 1 ∧ bt (V 24 (Int32.toNatClampNeg z19)) (Int32.toNatClampNeg p0) = true) ∨ (z25.toInt = 0 ∧ bt (V 24 (Int32.toNatClampNeg z19)) (Int32.toNatClampNeg p0) = false) := t28
        refine lv_if_eq (tgt := 99) hx hb dX5_seek_88 (by decide) (fun c29 => ?_) (fun c29 => ?_)
        · skip
          have f30 : z25.toInt = 0 := b_eq rfl (by decide) c29
          refine lv_iload hx hb dX5_seek_99 (lv_at hl 1 rfl) ?_
          refine lv_if_eq (tgt := 117) hx hb dX5_seek_101 (by decide) (fun _ => ?_) (fun q => absurd (by decide) q)
          refine lv_iconst (v := (-1)) hx hb dX5_seek_117 (by decide) ?_
          refine lv_istore (lv' := [(6, .int (-1)), (5, .int z19), (4, .int 0), (0, .ref (ad 5)), (1, .int p0), (2, .int p1), (3, .int p2)]) hx hb dX5_seek_118 hl (by decide) rfl (fun ls hl => ?_)
          refine lv_iload hx hb dX5_seek_120 (lv_at hl 0 rfl) ?_
          refine lv_iconst (v := (-1)) hx hb dX5_seek_122 (by decide) ?_
          refine lv_icmp_ne (tgt := 139) hx hb dX5_seek_123 (by decide) (fun q => absurd rfl q) (fun _ => ?_)
          have hu8 : bS gB p0.toInt.toNat ≠ 3 → prs gm z19.toInt p0.toInt (gm 0 2).toNat < 0 := fun h9 => by exfalso; omega
          refine lv_aload_n hx hb dX5_seek_126 rfl (lv_at hl 3 rfl) ?_
          refine lv_iload_n hx hb dX5_seek_127 rfl (lv_at hl 4 rfl) ?_
          refine lv_iload hx hb dX5_seek_128 (lv_at hl 1 rfl) ?_
          refine lv_iload_n hx hb dX5_seek_130 rfl (lv_at hl 6 rfl) ?_
          refine lv_iload hx hb dX5_seek_131 (lv_at hl 2 rfl) ?_
          have r31 : Int32.toInt 0 = 0 := by decide
          refine W.know (fun k33 k34 => ?_)
          obtain ⟨Hk32, hHk32⟩ : ∃ z, z = H := ⟨_, rfl⟩
          have k33 : Hk32.size ≤ s.heap.size + (zcc Z - zcc Z) := by rw [hHk32]; exact k33
          have k34 : tot Hk32 ≤ tot s.heap + (zss Z - zss Z) := by rw [hHk32]; exact k34
          refine gZ_void (gA_runV (As := [.int p0, .int z19, .int p2, .int 0]) (rest := []) (ci := 5) (q0 := 5) hx hb hml hown hg hP hD hK hS hA hnw hgk (x_beginMaking9 l D ks H.size ad kk V L Z p0 z19 p2 0 (b) (gB) (gm) (ga) (gfs) hMV (by first | exact om_3aaa083d8f35 rg_p0 cp8 cp9 sz9 r11 r12 kc14 | first | omega | ((try (have i_t6 := Imp.go t6 (by omega))); omega)) (by first | exact om_a86cb2e9a281 rgz19 pl9 f24 t28 f30 hu8 | first | omega | ((try (have i_t6 := Imp.go t6 (by omega))); omega)) (by decide) (show b < 2 from by first | exact om_289974d36c9f hb2 mup | first | omega | ((try (have i_t6 := Imp.go t6 (by omega))); omega)) mt (show p0.toInt < (V 43 (5 * b + 2)).toInt from by first | exact om_a35385f70713 cp9 sz9 kc14 | first | omega | ((try (have i_t6 := Imp.go t6 (by omega))); omega)) rwq bc (show (V 5 6).toInt ≤ 395 from by first | exact om_365aebac5e00 dp9 r1 kdp rd rd2 | first | omega | ((try (have i_t6 := Imp.go t6 (by omega))); omega)) (show 0 ≤ p0.toInt from by first | exact om_48e09f0ccb53 rg_p0 cp8 kc14 | first | omega | ((try (have i_t6 := Imp.go t6 (by omega))); omega)) (show p0.toInt < ((nC gB : Nat) : Int) from by first | exact om_c448efd652e2 cp9 sz9 kc14 | first | omega | ((try (have i_t6 := Imp.go t6 (by omega))); omega)) (show 0 ≤ z19.toInt from by first | exact om_090333bd5f8e rgz19 pl9 f24 t28 f30 hu8 | first | omega | ((try (have i_t6 := Imp.go t6 (by omega))); omega)) (show z19.toInt < (V 3 12).toInt from by first | exact om_a1bacf9e47ae rgz19 pl9 f24 t28 f30 hu8 | first | omega | ((try (have i_t6 := Imp.go t6 (by omega))); omega)) hu8 (Or.inr ⟨by decide, by omega⟩)) w1277 w1279 w47 w171 w1280 rfl xgMachine hdV_yX5_beginMaking ⟨Nat.le_of_ble_eq_true rfl, Nat.le_of_ble_eq_true rfl⟩ rfl hl.1 rfl (Nat.le_of_ble_eq_true rfl) dX5_seek_133 ⟨z1 zoZ.1, z1 zoZ.2.1⟩) hD hS hA (fun u36 H locs w37 hP hD hK hS y38 y39 => ?_)
          obtain ⟨V40, L41, Z42⟩ := u36
          obtain ⟨hMV40, ajV40, axL41, zlZ42, t44, t45⟩ := w37
          have axL41 : L = L41 := Eq.symm axL41
          subst axL41
          replace hP : va_P D vwCl (xw ad kk V40 L Z42) H := hP
          replace hD : va_D A (xw ad kk V40 L Z42) := hD
          replace hK : va_K D vwCl (xty kk Z42) s := hK
          replace hMV40 : rgd bX V40 := hMV40
          replace ajV40 : agr [(3, 13), (5, 6), (5, 9), (5, 11), (5, 12), (5, 13), (5, 14)] [25, 26, 27, 28, 30, 67, 68, 69, 70, 71, 72, 73, 74, 75, 76, 77, 78, 79, 80, 81, 82, 83, 84, 85] V V40 := ajV40
          have agV40 : agr [(3, 13), (5, 6), (5, 9), (5, 10), (5, 11), (5, 12), (5, 13), (5, 14)] [25, 26, 27, 28, 30, 67, 68, 69, 70, 71, 72, 73, 74, 75, 76, 77, 78, 79, 80, 81, 82, 83, 84, 85] V V40 := agV.tr ajV40 (by decide) (by decide)
          replace zlZ42 : ZL Z Z42 := zlZ42
          have zoZ42 : ZL Z Z42 := ZL.tr zoZ zlZ42
          have ziZ42 := zlZ42.1
          have zjZ42 := zlZ42.2.1
          have zkZ42 := zlZ42.2.2.1
          have zmZ42 := zoZ42.1
          have znZ42 := zoZ42.2.1
          have zpZ_Z42 := zoZ.1
          have zqZ_Z42 := zoZ.2.1
          have y38 : H.size ≤ Hk32.size + (zcc Z - zcc Z42) := by rw [hHk32]; exact y38
          have y39 : tot H ≤ tot Hk32 + (zss Z - zss Z42) := by rw [hHk32]; exact y39
          refine W.tight (k := zcc Z - zcc Z42) (n := zss Z - zss Z42) (by first | exact tg9 y38 k33 zlZ42.1 zoZ.1 | omega) (by first | exact tg9 y39 k34 zlZ42.2.1 zoZ.2.1 | omega) ?_
          replace t44 : MJ V40 Z42 b := t44
          replace t45 : RW V40 gB (makeM gm ga gfs p0.toInt z19.toInt p2.toInt) := t45
          refine lv_goto (tgt := 167) hx hb dX5_seek_136 (by decide) ?_
          have sp9 : ¬ gm 8 (24 * z19.toInt.toNat + p0.toInt.toNat) ≠ 0 := by intro h9; have h8 := (RWn.spl (s := z19.toInt.toNat) rn (by (first | exact om_eb0b540defb8 rg_p1 sc9 rgz19 pl9 f24 t28 f30 hu8 ziZ42 zjZ42 h9 | omega)) (by (first | exact om_88443abe1942 rg_p0 cp8 cp9 sz9 r11 r12 kc14 | omega))).mpr h9; have h7 := (t28.resolve_left (fun h6 => by have h5 := h6.1; (first | exact om_b1ddd4bbcf5e f30 h6 | omega))).2; rw [show z19.toInt.toNat = Int32.toNatClampNeg z19 from rfl, show p0.toInt.toNat = Int32.toNatClampNeg p0 from rfl, h7] at h8; exact absurd h8 (by decide)
          have rx46 : RW V40 gB (seekM gB gm ga gfs p0.toInt p1.toInt p2.toInt) := by rw [sk_m pl9.1 (by (first | exact om_e4e054164e85 rgz19 pl9 f24 t28 f30 hu8 ziZ42 zjZ42 | omega)) sp9 (Or.inl (by omega))]; exact t45
          refine W.know (fun kr1 kr2 => ?_)
          refine W.widen (k := zcc Z) (n := zss Z) (Nat.sub_le _ _) (Nat.sub_le _ _) ?_
          exact W.vret hx hb hr (fun t ht hW => ⟨⟨(V40, L, Z42), rfl, ⟨hMV40, agV40, rfl, zoZ42, t44, rx46⟩, ⟨by rw [ht]; exact hP, va_K.moved hW.alike hK, hD⟩, by rw [ht]; exact kr1, by rw [ht]; exact kr2⟩, hS.F ht⟩) hS.2.2 dX5_seek_167
        · skip
          have f47 : z25.toInt ≠ 0 := b_neq rfl (by decide) c29
          refine lv_aload_n hx hb dX5_seek_91 rfl (lv_at hl 2 rfl) ?_
          refine lv_iconst (v := 0) hx hb dX5_seek_92 (by decide) ?_
          refine lv_bipush (v := 15) hx hb dX5_seek_93 (by decide) ?_
          have r48 : Int32.toInt 0 = 0 := by decide
          have r49 : Int32.toInt 15 = 15 := by decide
          refine gA_void (gA_runV (As := [.int 0, .int 15]) (rest := []) (ci := 5) (q0 := 5) hx hb hml hown hg hP hD hK hS hA hnw hgk (x_failWith9 l D ks H.size ad kk V L Z 0 15 hMV ) w1261 w1263 w46 w171 w1264 rfl xgMachine hdV_yX5_failWith ⟨Nat.le_of_ble_eq_true rfl, Nat.le_of_ble_eq_true rfl⟩ rfl hl.1 rfl (Nat.le_of_ble_eq_true rfl) dX5_seek_95 ⟨z0, z0⟩) hP hD hK hS hA (fun u51 H locs w52 hP hD hK hS => ?_)
          obtain ⟨V55, L56⟩ := u51
          obtain ⟨hMV55, ajV55, axL56, t53, t54⟩ := w52
          have axL56 : L = L56 := Eq.symm axL56
          subst axL56
          replace hP : va_P D vwCl (xw ad kk V55 L Z) H := hP
          replace hD : va_D A (xw ad kk V55 L Z) := hD
          replace hMV55 : rgd bX V55 := hMV55
          replace ajV55 : agr [(5, 9), (5, 11), (5, 12)] [] V V55 := ajV55
          have agV55 : agr [(3, 13), (5, 6), (5, 9), (5, 10), (5, 11), (5, 12), (5, 13), (5, 14)] [25, 26, 27, 28, 30, 67, 68, 69, 70, 71, 72, 73, 74, 75, 76, 77, 78, 79, 80, 81, 82, 83, 84, 85] V V55 := agV.tr ajV55 (by decide) (by decide)
          replace t53 : (V55 5 9).toInt = 2 := t53
          replace t54 : ((True) ∧ V55 = (up2 (up2 (up2 V 5 9 2) 5 11 0) 5 12 15)) := t54
          have r57 : 0 ≤ ((V55 5 9)).toInt ∧ ((V55 5 9)).toInt ≤ 3 := hMV55 5 9
          have hw58 := t54.2
          obtain ⟨V59, hV59⟩ : ∃ z, z = up2 V 5 9 2 := ⟨_, rfl⟩
          obtain ⟨V60, hV60⟩ : ∃ z, z = up2 V59 5 11 0 := ⟨_, rfl⟩
          have hV55 : V55 = up2 V60 5 12 15 := by rw [hw58, hV60, hV59]
          have me61 : ME V V55 400 := (ME.up (ME.up (ME.up ME.rf hV59 (Or.inr (by (first | exact om_620f5006bfaa  | omega)))) hV60 (Or.inr (by (first | exact om_ded18bf8e7e5  | omega)))) hV55 (Or.inr (by (first | exact om_82aabbaa6769  | omega))))
          have mt62 : MTw V55 Z b := MTw.me mt me61 ((up2_k hV55 (by first | exact om_7395dabbef6e  | first | omega | ((try (have i_t6 := Imp.go t6 (by omega))); omega))).trans ((up2_k hV60 (by first | exact om_e32866c5f886  | first | omega | ((try (have i_t6 := Imp.go t6 (by omega))); omega))).trans (up2_k hV59 (by first | exact om_88c4fa396ee7  | first | omega | ((try (have i_t6 := Imp.go t6 (by omega))); omega)))))
          have pq63 : (V55 5 9).toInt = 2 := (congrArg Int32.toInt ((up2_k hV55 (by decide)).trans ((up2_k hV60 (by decide)).trans (up2_s hV59)))).trans (by decide)
          have rp64 : MJ V55 Z b := MTw.mj mt62 (fun q => absurd q.1 (by (first | exact om_43d8e2139c68 t53 | omega)))
          have sp9 :  gm 8 (24 * z19.toInt.toNat + p0.toInt.toNat) ≠ 0 := by exact (RWn.spl (s := z19.toInt.toNat) rn (by (first | exact om_7da54377d91e rg_p1 sc9 rgz19 pl9 f24 rgz25 t28 f47 | omega)) (by (first | exact om_88443abe1942 rg_p0 cp8 cp9 sz9 r11 r12 kc14 | omega))).mp (t28.resolve_right (fun h9 => by have h8 := h9.1; (first | exact om_2cb0a3239a5e f47 h9 | omega))).2
          have me66 : ME V V55 gfs.length := (ME.up (ME.up (ME.up ME.rf hV59 (Or.inr (by (first | exact om_620f5006bfaa  | omega)))) hV60 (Or.inr (by (first | exact om_ded18bf8e7e5  | omega)))) hV55 (Or.inr (by (first | exact om_82aabbaa6769  | omega))))
          have rl67 : RWl V55 gB gfs tw9 := RWl.mv rl (fun i9 hi9 c9 h1 h2 => me66.2.1 c9 i9 h1 h2 hi9) (fun j9 hj9 => ((up2_o hV55 (by decide)).trans ((up2_o hV60 (by decide)).trans (up2_o hV59 (by decide))))) (by rw [((up2_o hV55 (by decide)).trans ((up2_o hV60 (by decide)).trans (up2_o hV59 (by decide))))]; exact Int.le_refl _) ((up2_o hV55 (by decide)).trans ((up2_o hV60 (by decide)).trans (up2_o hV59 (by decide))))
          have pq68 : (V55 5 6).toInt = ((V 5 6)).toInt := congrArg Int32.toInt ((up2_k hV55 (by decide)).trans ((up2_k hV60 (by decide)).trans (up2_k hV59 (by decide))))
          have pq69 : (V55 5 7).toInt = ((V 5 7)).toInt := congrArg Int32.toInt ((up2_k hV55 (by decide)).trans ((up2_k hV60 (by decide)).trans (up2_k hV59 (by decide))))
          have r70 : 0 ≤ ((V 5 7)).toInt ∧ ((V 5 7)).toInt ≤ 2048 := hMV 5 7
          have pq71 : (V55 5 11).toInt = 0 := (congrArg Int32.toInt ((up2_k hV55 (by decide)).trans (up2_s hV60))).trans (by decide)
          have pq72 : (V55 5 12).toInt = 15 := (congrArg Int32.toInt (up2_s hV55)).trans (by decide)
          have rz9 : RW V55 gB (mU (mU (mU gm 0 6 2) 0 8 0) 0 9 15, ga, gfs) := RW.fl rwq (ESw.ag (show agr [(5, 9), (5, 11), (5, 12)] [] V V55 from (agr.up (agr.up (agr.up agr.rf hV59 rfl) hV60 rfl) hV55 rfl)) (by decide)) (by (first | exact om_6aa5e6f8c558 t53 | omega)) (by (first | exact om_b66ba74381d5 pq71 | omega)) (by (first | exact om_e23a309f9e80 pq72 | omega)) (show (V55 5 6).toInt = ((gfs.length : Nat) : Int) from by (first | exact om_375053e3640d kdp rd rd2 pq68 | omega)) (show (V55 5 7).toInt = ((tw9 : Nat) : Int) from by rw [((up2_k hV55 (by decide)).trans ((up2_k hV60 (by decide)).trans (up2_k hV59 (by decide))))]; exact rt9) rl67
          have rx65 : RW V55 gB (seekM gB gm ga gfs p0.toInt p1.toInt p2.toInt) := by rw [sk_s pl9.1 (by (first | exact om_1ecf1b590386 rgz19 pl9 f24 rgz25 t28 f47 sp9 | omega)) sp9]; exact rz9
          refine W.know (fun kr1 kr2 => ?_)
          refine W.widen (k := zcc Z) (n := zss Z) (Nat.sub_le _ _) (Nat.sub_le _ _) ?_
          exact W.vret hx hb hr (fun t ht hW => ⟨⟨(V55, L, Z), rfl, ⟨hMV55, agV55, rfl, zoZ, rp64, rx65⟩, ⟨by rw [ht]; exact hP, va_K.moved hW.alike hK, hD⟩, by rw [ht]; exact kr1, by rw [ht]; exact kr2⟩, hS.F ht⟩) hS.2.2 dX5_seek_98
      · skip
        have f73 : z19.toInt = (-1) := b_eq rfl (by decide) c23
        refine lv_aload_n hx hb dX5_seek_70 rfl (lv_at hl 2 rfl) ?_
        refine lv_iconst (v := 0) hx hb dX5_seek_71 (by decide) ?_
        refine lv_bipush (v := 14) hx hb dX5_seek_72 (by decide) ?_
        have r74 : Int32.toInt 0 = 0 := by decide
        have r75 : Int32.toInt 14 = 14 := by decide
        refine gA_void (gA_runV (As := [.int 0, .int 14]) (rest := []) (ci := 5) (q0 := 5) hx hb hml hown hg hP hD hK hS hA hnw hgk (x_failWith9 l D ks H.size ad kk V L Z 0 14 hMV ) w1261 w1263 w46 w171 w1264 rfl xgMachine hdV_yX5_failWith ⟨Nat.le_of_ble_eq_true rfl, Nat.le_of_ble_eq_true rfl⟩ rfl hl.1 rfl (Nat.le_of_ble_eq_true rfl) dX5_seek_74 ⟨z0, z0⟩) hP hD hK hS hA (fun u77 H locs w78 hP hD hK hS => ?_)
        obtain ⟨V81, L82⟩ := u77
        obtain ⟨hMV81, ajV81, axL82, t79, t80⟩ := w78
        have axL82 : L = L82 := Eq.symm axL82
        subst axL82
        replace hP : va_P D vwCl (xw ad kk V81 L Z) H := hP
        replace hD : va_D A (xw ad kk V81 L Z) := hD
        replace hMV81 : rgd bX V81 := hMV81
        replace ajV81 : agr [(5, 9), (5, 11), (5, 12)] [] V V81 := ajV81
        have agV81 : agr [(3, 13), (5, 6), (5, 9), (5, 10), (5, 11), (5, 12), (5, 13), (5, 14)] [25, 26, 27, 28, 30, 67, 68, 69, 70, 71, 72, 73, 74, 75, 76, 77, 78, 79, 80, 81, 82, 83, 84, 85] V V81 := agV.tr ajV81 (by decide) (by decide)
        replace t79 : (V81 5 9).toInt = 2 := t79
        replace t80 : ((True) ∧ V81 = (up2 (up2 (up2 V 5 9 2) 5 11 0) 5 12 14)) := t80
        have r83 : 0 ≤ ((V81 5 9)).toInt ∧ ((V81 5 9)).toInt ≤ 3 := hMV81 5 9
        have hw84 := t80.2
        obtain ⟨V85, hV85⟩ : ∃ z, z = up2 V 5 9 2 := ⟨_, rfl⟩
        obtain ⟨V86, hV86⟩ : ∃ z, z = up2 V85 5 11 0 := ⟨_, rfl⟩
        have hV81 : V81 = up2 V86 5 12 14 := by rw [hw84, hV86, hV85]
        have me87 : ME V V81 400 := (ME.up (ME.up (ME.up ME.rf hV85 (Or.inr (by (first | exact om_620f5006bfaa  | omega)))) hV86 (Or.inr (by (first | exact om_ded18bf8e7e5  | omega)))) hV81 (Or.inr (by (first | exact om_82aabbaa6769  | omega))))
        have mt88 : MTw V81 Z b := MTw.me mt me87 ((up2_k hV81 (by first | exact om_7395dabbef6e  | first | omega | ((try (have i_t6 := Imp.go t6 (by omega))); omega))).trans ((up2_k hV86 (by first | exact om_e32866c5f886  | first | omega | ((try (have i_t6 := Imp.go t6 (by omega))); omega))).trans (up2_k hV85 (by first | exact om_88c4fa396ee7  | first | omega | ((try (have i_t6 := Imp.go t6 (by omega))); omega)))))
        have pq89 : (V81 5 9).toInt = 2 := (congrArg Int32.toInt ((up2_k hV81 (by decide)).trans ((up2_k hV86 (by decide)).trans (up2_s hV85)))).trans (by decide)
        have rp90 : MJ V81 Z b := MTw.mj mt88 (fun q => absurd q.1 (by (first | exact om_43d8e2139c68 t79 | omega)))
        have me92 : ME V V81 gfs.length := (ME.up (ME.up (ME.up ME.rf hV85 (Or.inr (by (first | exact om_620f5006bfaa  | omega)))) hV86 (Or.inr (by (first | exact om_ded18bf8e7e5  | omega)))) hV81 (Or.inr (by (first | exact om_82aabbaa6769  | omega))))
        have rl93 : RWl V81 gB gfs tw9 := RWl.mv rl (fun i9 hi9 c9 h1 h2 => me92.2.1 c9 i9 h1 h2 hi9) (fun j9 hj9 => ((up2_o hV81 (by decide)).trans ((up2_o hV86 (by decide)).trans (up2_o hV85 (by decide))))) (by rw [((up2_o hV81 (by decide)).trans ((up2_o hV86 (by decide)).trans (up2_o hV85 (by decide))))]; exact Int.le_refl _) ((up2_o hV81 (by decide)).trans ((up2_o hV86 (by decide)).trans (up2_o hV85 (by decide))))
        have pq94 : (V81 5 6).toInt = ((V 5 6)).toInt := congrArg Int32.toInt ((up2_k hV81 (by decide)).trans ((up2_k hV86 (by decide)).trans (up2_k hV85 (by decide))))
        have pq95 : (V81 5 7).toInt = ((V 5 7)).toInt := congrArg Int32.toInt ((up2_k hV81 (by decide)).trans ((up2_k hV86 (by decide)).trans (up2_k hV85 (by decide))))
        have r96 : 0 ≤ ((V 5 7)).toInt ∧ ((V 5 7)).toInt ≤ 2048 := hMV 5 7
        have pq97 : (V81 5 11).toInt = 0 := (congrArg Int32.toInt ((up2_k hV81 (by decide)).trans (up2_s hV86))).trans (by decide)
        have pq98 : (V81 5 12).toInt = 14 := (congrArg Int32.toInt (up2_s hV81)).trans (by decide)
        have rz9 : RW V81 gB (mU (mU (mU gm 0 6 2) 0 8 0) 0 9 14, ga, gfs) := RW.fl rwq (ESw.ag (show agr [(5, 9), (5, 11), (5, 12)] [] V V81 from (agr.up (agr.up (agr.up agr.rf hV85 rfl) hV86 rfl) hV81 rfl)) (by decide)) (by (first | exact om_6aa5e6f8c558 t79 | omega)) (by (first | exact om_b66ba74381d5 pq97 | omega)) (by (first | exact om_07283b2e1291 pq98 | omega)) (show (V81 5 6).toInt = ((gfs.length : Nat) : Int) from by (first | exact om_375053e3640d kdp rd rd2 pq94 | omega)) (show (V81 5 7).toInt = ((tw9 : Nat) : Int) from by rw [((up2_k hV81 (by decide)).trans ((up2_k hV86 (by decide)).trans (up2_k hV85 (by decide))))]; exact rt9) rl93
        have rx91 : RW V81 gB (seekM gB gm ga gfs p0.toInt p1.toInt p2.toInt) := by rw [sk_p pl9.1 (by (first | exact om_5bc6cfeb5ce7 pl9 f73 | omega))]; exact rz9
        refine W.know (fun kr1 kr2 => ?_)
        refine W.widen (k := zcc Z) (n := zss Z) (Nat.sub_le _ _) (Nat.sub_le _ _) ?_
        exact W.vret hx hb hr (fun t ht hW => ⟨⟨(V81, L, Z), rfl, ⟨hMV81, agV81, rfl, zoZ, rp90, rx91⟩, ⟨by rw [ht]; exact hP, va_K.moved hW.alike hK, hD⟩, by rw [ht]; exact kr1, by rw [ht]; exact kr2⟩, hS.F ht⟩) hS.2.2 dX5_seek_77
    · skip
      have f99 : ((V 51 (24 * b + (Int32.toNatClampNeg p0)))).toInt ≠ 3 := b_neq rfl (by decide) c17
      refine lv_iconst (v := 1) hx hb dX5_seek_35 (by decide) ?_
      refine lv_goto (tgt := 40) hx hb dX5_seek_36 (by decide) ?_
      refine lv_istore (lv' := [(4, .int 1), (0, .ref (ad 5)), (1, .int p0), (2, .int p1), (3, .int p2)]) hx hb dX5_seek_40 hl (by decide) rfl (fun ls hl => ?_)
      refine lv_aload_n hx hb dX5_seek_42 rfl (lv_at hl 1 rfl) ?_
      refine va_get (D := D) (ci := 5) (v := .ref (ad 3)) (fs := (xfMachine ad V L Z)) (C := RX5) (T := TX5) (N := 15) hx hb hg inX5 hown hK hP 5 xgMachine rfl 0 (by decide) (hg _ w667) (fun _ h9 => h9) rfl dX5_seek_43 ?_
      refine lv_aload_n hx hb dX5_seek_46 rfl (lv_at hl 1 rfl) ?_
      refine va_get (D := D) (ci := 5) (v := .ref (ad (38 + Int32.toNatClampNeg (V 5 5)))) (fs := (xfMachine ad V L Z)) (C := RX5) (T := TX5) (N := 15) hx hb hg inX5 hown hK hP 5 xgMachine rfl 5 (by decide) (hg _ w672) (fun _ h9 => h9) rfl dX5_seek_47 ?_
      refine g_topv (v := .ref (ad (38 + b))) (rfP (by first | exact om_c62f5505ba8e mup | first | omega | ((try (have i_t6 := Imp.go t6 (by omega))); omega))) ?_
      refine va_getN (D := D) (ci := 0) (v := .ref (ad (64 + b))) (fs := (xfBook ad V b)) (C := RX0) (T := TX0) (N := 13) hx hb hg inX0 hown hK hP (38 + b) (xgBook hb2) rfl 7 (by decide) (hnw.use 618 n618 rfl) (fun _ h9 => h9) rfl dX5_seek_50 ?_
      refine lv_iload_n hx hb dX5_seek_53 rfl (lv_at hl 2 rfl) ?_
      refine va_aldq (D := D) (i := p0) hx hb hK hP (64 + b) (57 + b) (xgcomps il13) (xtcomps il13) (i_in (a := p0.toInt) rfl (by first | exact om_a53754c71a25 rg_p0 cp8 cp9 sz9 r11 r12 kc14 | first | omega | ((try (have i_t6 := Imp.go t6 (by omega))); omega))) dX5_seek_54 ?_
      refine g_topv (v := .ref (ad (72 + (24 * b + (Int32.toNatClampNeg p0))))) (congrArg va_rf (if_pos (by first | exact om_936c69b2297a rg_p0 cp8 cp9 sz9 r11 r12 kc14 | first | omega | ((try (have i_t6 := Imp.go t6 (by omega))); omega)))) ?_
      refine va_getN (D := D) (ci := 3) (v := .int (V 51 (24 * b + (Int32.toNatClampNeg p0)))) (fs := (xfComp ad V (24 * b + (Int32.toNatClampNeg p0)))) (C := RX3) (T := TX3) (N := 13) hx hb hg inX3 hown hK hP (72 + (24 * b + (Int32.toNatClampNeg p0))) (xgComp il15) rfl 6 (by decide) (hnw.use 522 n522 rfl) (fun _ h9 => h9) rfl dX5_seek_55 ?_
      refine lv_iload_n hx hb dX5_seek_58 rfl (lv_at hl 3 rfl) ?_
      refine gA_int (gA_runV (As := [.int (V 51 (24 * b + (Int32.toNatClampNeg p0))), .int p1]) (rest := []) (ci := 8) (q0 := 3) hx hb hml hown hg hP hD hK hS hA hnw hgk (x_placeOf9 l D ks H.size ad kk V L Z (V 51 (24 * b + (Int32.toNatClampNeg p0))) p1 hMV (by first | exact om_647482f06eaf rg_p1 | first | omega | ((try (have i_t6 := Imp.go t6 (by omega))); omega))) w1265 w1266 w1267 w164 w1268 rfl xgStock hdV_yX8_placeOf ⟨Nat.le_of_ble_eq_true rfl, Nat.le_of_ble_eq_true rfl⟩ rfl hl.1 rfl (Nat.le_of_ble_eq_true rfl) dX5_seek_59 ⟨z0, z0⟩) hP hD hK hS hA (fun z100 u101 H locs w102 hP hD hK hS => ?_)
      obtain ⟨rgz100, t103⟩ := w102
      replace rgz100 : (-1) ≤ z100.toInt ∧ z100.toInt ≤ 39 := rgz100
      replace t103 : (((V 51 (24 * b + (Int32.toNatClampNeg p0)))).toInt = 0 ∧ z100.toInt = 0) ∨ (((V 51 (24 * b + (Int32.toNatClampNeg p0)))).toInt = 1 ∧ (V 21 (Int32.toNatClampNeg p1)).toInt = 1 ∧ z100.toInt = p1.toInt) ∨ (((V 51 (24 * b + (Int32.toNatClampNeg p0)))).toInt = 1 ∧ (V 21 (Int32.toNatClampNeg p1)).toInt = 2 ∧ z100.toInt = (V 22 (Int32.toNatClampNeg p1)).toInt) ∨ (((V 51 (24 * b + (Int32.toNatClampNeg p0)))).toInt = 1 ∧ (V 21 (Int32.toNatClampNeg p1)).toInt ≠ 1 ∧ (V 21 (Int32.toNatClampNeg p1)).toInt ≠ 2 ∧ z100.toInt = -1) ∨ (((V 51 (24 * b + (Int32.toNatClampNeg p0)))).toInt = 2 ∧ (V 21 (Int32.toNatClampNeg p1)).toInt = 2 ∧ z100.toInt = p1.toInt) ∨ (((V 51 (24 * b + (Int32.toNatClampNeg p0)))).toInt = 2 ∧ (V 21 (Int32.toNatClampNeg p1)).toInt ≠ 2 ∧ z100.toInt = -1) ∨ ((((V 51 (24 * b + (Int32.toNatClampNeg p0)))).toInt < 0 ∨ 2 < ((V 51 (24 * b + (Int32.toNatClampNeg p0)))).toInt) ∧ z100.toInt = p1.toInt) := t103
      refine lv_istore (lv' := [(5, .int z100), (4, .int 1), (0, .ref (ad 5)), (1, .int p0), (2, .int p1), (3, .int p2)]) hx hb dX5_seek_62 hl (by decide) rfl (fun ls hl => ?_)
      have pl9 := RWn.plc9 (sk := bS gB p0.toInt.toNat) rn (show 0 ≤ p1.toInt from by (first | exact om_8b08cc030c6f rg_p1 | omega)) (show p1.toInt < (V 3 12).toInt from by (first | exact om_0e9116797efb sc9 | omega)) s51 (by omega) t103
      refine lv_iload hx hb dX5_seek_64 (lv_at hl 0 rfl) ?_
      refine lv_iconst (v := (-1)) hx hb dX5_seek_66 (by decide) ?_
      refine lv_icmp_ne (tgt := 78) hx hb dX5_seek_67 (by decide) (fun c104 => ?_) (fun c104 => ?_)
      · skip
        have f105 : z100.toInt ≠ (-1) := b_neq rfl (by decide) c104
        refine lv_aload_n hx hb dX5_seek_78 rfl (lv_at hl 2 rfl) ?_
        refine va_get (D := D) (ci := 5) (v := .ref (ad 3)) (fs := (xfMachine ad V L Z)) (C := RX5) (T := TX5) (N := 15) hx hb hg inX5 hown hK hP 5 xgMachine rfl 0 (by decide) (hg _ w667) (fun _ h9 => h9) rfl dX5_seek_79 ?_
        refine lv_iload hx hb dX5_seek_82 (lv_at hl 0 rfl) ?_
        refine lv_iload_n hx hb dX5_seek_84 rfl (lv_at hl 3 rfl) ?_
        refine gA_int (gA_runV (As := [.int z100, .int p0]) (rest := []) (ci := 8) (q0 := 3) hx hb hml hown hg hP hD hK hS hA hnw hgk (x_isSpoiled9 l D ks H.size ad kk V L Z z100 p0 hMV (by first | exact om_4217ce2a7191 rgz100 pl9 f105 | first | omega | ((try (have i_t6 := Imp.go t6 (by omega))); omega)) (show 0 ≤ p0.toInt from by first | exact om_48e09f0ccb53 rg_p0 cp8 kc14 | first | omega | ((try (have i_t6 := Imp.go t6 (by omega))); omega)) (show p0.toInt ≤ 23 from by first | exact om_ec2df5419bb3 rg_p0 cp8 cp9 sz9 r11 r12 kc14 | first | omega | ((try (have i_t6 := Imp.go t6 (by omega))); omega))) w1269 w1270 w1271 w164 w1272 rfl xgStock hdV_yX8_isSpoiled ⟨Nat.le_of_ble_eq_true rfl, Nat.le_of_ble_eq_true rfl⟩ rfl hl.1 rfl (Nat.le_of_ble_eq_true rfl) dX5_seek_85 ⟨z0, z0⟩) hP hD hK hS hA (fun z106 u107 H locs w108 hP hD hK hS => ?_)
        obtain ⟨rgz106, t109⟩ := w108
        replace rgz106 : 0 ≤ z106.toInt ∧ z106.toInt ≤ 1 := rgz106
        replace t109 : (z106.toInt = 1 ∧ bt (V 24 (Int32.toNatClampNeg z100)) (Int32.toNatClampNeg p0) = true) ∨ (z106.toInt = 0 ∧ bt (V 24 (Int32.toNatClampNeg z100)) (Int32.toNatClampNeg p0) = false) := t109
        refine lv_if_eq (tgt := 99) hx hb dX5_seek_88 (by decide) (fun c110 => ?_) (fun c110 => ?_)
        · skip
          have f111 : z106.toInt = 0 := b_eq rfl (by decide) c110
          refine lv_iload hx hb dX5_seek_99 (lv_at hl 1 rfl) ?_
          refine lv_if_eq (tgt := 117) hx hb dX5_seek_101 (by decide) (fun q => absurd q (by decide)) (fun _ => ?_)
          refine lv_aload_n hx hb dX5_seek_104 rfl (lv_at hl 2 rfl) ?_
          refine va_get (D := D) (ci := 5) (v := .ref (ad 3)) (fs := (xfMachine ad V L Z)) (C := RX5) (T := TX5) (N := 15) hx hb hg inX5 hown hK hP 5 xgMachine rfl 0 (by decide) (hg _ w667) (fun _ h9 => h9) rfl dX5_seek_105 ?_
          refine lv_iload hx hb dX5_seek_108 (lv_at hl 0 rfl) ?_
          refine lv_iload_n hx hb dX5_seek_110 rfl (lv_at hl 3 rfl) ?_
          refine gA_int (gA_runV (As := [.int z100, .int p0]) (rest := []) (ci := 8) (q0 := 3) hx hb hml hown hg hP hD hK hS hA hnw hgk (x_objectAt2 l D ks H.size ad kk V L Z z100 p0 hMV (by first | exact om_8dbb73026e0f rgz100 pl9 f105 t109 f111 | first | omega | ((try (have i_t6 := Imp.go t6 (by omega))); omega)) (by first | exact om_3aaa083d8f35 rg_p0 cp8 cp9 sz9 r11 r12 kc14 | first | omega | ((try (have i_t6 := Imp.go t6 (by omega))); omega))) w1273 w1274 w1275 w164 w1276 rfl xgStock hdV_yX8_objectAt ⟨Nat.le_of_ble_eq_true rfl, Nat.le_of_ble_eq_true rfl⟩ rfl hl.1 rfl (Nat.le_of_ble_eq_true rfl) dX5_seek_111 ⟨z0, z0⟩) hP hD hK hS hA (fun z112 u113 H locs w114 hP hD hK hS => ?_)
          obtain ⟨rgz112, t115⟩ := w114
          replace rgz112 : (-1) ≤ z112.toInt ∧ z112.toInt ≤ 299 := rgz112
          replace t115 : z112 = V 25 (24 * Int32.toNatClampNeg z100 + Int32.toNatClampNeg p0) := t115
          refine lv_goto (tgt := 118) hx hb dX5_seek_114 (by decide) ?_
          refine lv_istore (lv' := [(6, .int z112), (5, .int z100), (4, .int 1), (0, .ref (ad 5)), (1, .int p0), (2, .int p1), (3, .int p2)]) hx hb dX5_seek_118 hl (by decide) rfl (fun ls hl => ?_)
          refine lv_iload hx hb dX5_seek_120 (lv_at hl 0 rfl) ?_
          refine lv_iconst (v := (-1)) hx hb dX5_seek_122 (by decide) ?_
          refine lv_icmp_ne (tgt := 139) hx hb dX5_seek_123 (by decide) (fun c116 => ?_) (fun c116 => ?_)
          · skip
            have f117 : z112.toInt ≠ (-1) := b_neq rfl (by decide) c116
            refine lv_aload_n hx hb dX5_seek_139 rfl (lv_at hl 3 rfl) ?_
            refine va_get (D := D) (ci := 5) (v := .ref (ad 3)) (fs := (xfMachine ad V L Z)) (C := RX5) (T := TX5) (N := 15) hx hb hg inX5 hown hK hP 5 xgMachine rfl 0 (by decide) (hg _ w667) (fun _ h9 => h9) rfl dX5_seek_140 ?_
            refine lv_iload hx hb dX5_seek_143 (lv_at hl 0 rfl) ?_
            refine gA_int (gA_runV (As := [.int z112]) (rest := []) (ci := 8) (q0 := 3) hx hb hml hown hg hP hD hK hS hA hnw hgk (x_isMade9 l D ks H.size ad kk V L Z z112 hMV ) w1296 w1297 w1298 w164 w1299 rfl xgStock hdV_yX8_isMade ⟨Nat.le_of_ble_eq_true rfl, Nat.le_of_ble_eq_true rfl⟩ rfl hl.1 rfl (Nat.le_of_ble_eq_true rfl) dX5_seek_145 ⟨z0, z0⟩) hP hD hK hS hA (fun z118 u119 H locs w120 hP hD hK hS => ?_)
            obtain ⟨rgz118, t121, t122⟩ := w120
            replace rgz118 : 0 ≤ z118.toInt ∧ z118.toInt ≤ 1 := rgz118
            replace t121 : Imp (z118.toInt = 1) (0 ≤ z112.toInt ∧ z112.toInt < (V 3 13).toInt) := t121
            replace t122 : (z118.toInt = 1 ∧ 0 ≤ z112.toInt ∧ z112.toInt < (V 3 13).toInt ∧ (V 28 (Int32.toNatClampNeg z112)).toInt = 1) ∨ (z118.toInt = 0 ∧ (z112.toInt < 0 ∨ (V 3 13).toInt ≤ z112.toInt ∨ (V 28 (Int32.toNatClampNeg z112)).toInt ≠ 1)) := t122
            have r123 : 0 ≤ ((V 3 13)).toInt ∧ ((V 3 13)).toInt ≤ 300 := hMV 3 13
            refine lv_if_eq (tgt := 160) hx hb dX5_seek_148 (by decide) (fun c124 => ?_) (fun c124 => ?_)
            · skip
              have f125 : z118.toInt = 0 := b_eq rfl (by decide) c124
              refine lv_aload_n hx hb dX5_seek_160 rfl (lv_at hl 3 rfl) ?_
              refine lv_iconst (v := 0) hx hb dX5_seek_161 (by decide) ?_
              refine lv_bipush (v := 12) hx hb dX5_seek_162 (by decide) ?_
              have r126 : Int32.toInt 0 = 0 := by decide
              have r127 : Int32.toInt 12 = 12 := by decide
              refine gA_void (gA_runV (As := [.int 0, .int 12]) (rest := []) (ci := 5) (q0 := 5) hx hb hml hown hg hP hD hK hS hA hnw hgk (x_failWith9 l D ks H.size ad kk V L Z 0 12 hMV ) w1261 w1263 w46 w171 w1264 rfl xgMachine hdV_yX5_failWith ⟨Nat.le_of_ble_eq_true rfl, Nat.le_of_ble_eq_true rfl⟩ rfl hl.1 rfl (Nat.le_of_ble_eq_true rfl) dX5_seek_164 ⟨z0, z0⟩) hP hD hK hS hA (fun u129 H locs w130 hP hD hK hS => ?_)
              obtain ⟨V133, L134⟩ := u129
              obtain ⟨hMV133, ajV133, axL134, t131, t132⟩ := w130
              have axL134 : L = L134 := Eq.symm axL134
              subst axL134
              replace hP : va_P D vwCl (xw ad kk V133 L Z) H := hP
              replace hD : va_D A (xw ad kk V133 L Z) := hD
              replace hMV133 : rgd bX V133 := hMV133
              replace ajV133 : agr [(5, 9), (5, 11), (5, 12)] [] V V133 := ajV133
              have agV133 : agr [(3, 13), (5, 6), (5, 9), (5, 10), (5, 11), (5, 12), (5, 13), (5, 14)] [25, 26, 27, 28, 30, 67, 68, 69, 70, 71, 72, 73, 74, 75, 76, 77, 78, 79, 80, 81, 82, 83, 84, 85] V V133 := agV.tr ajV133 (by decide) (by decide)
              replace t131 : (V133 5 9).toInt = 2 := t131
              replace t132 : ((True) ∧ V133 = (up2 (up2 (up2 V 5 9 2) 5 11 0) 5 12 12)) := t132
              have r135 : 0 ≤ ((V133 5 9)).toInt ∧ ((V133 5 9)).toInt ≤ 3 := hMV133 5 9
              have hw136 := t132.2
              obtain ⟨V137, hV137⟩ : ∃ z, z = up2 V 5 9 2 := ⟨_, rfl⟩
              obtain ⟨V138, hV138⟩ : ∃ z, z = up2 V137 5 11 0 := ⟨_, rfl⟩
              have hV133 : V133 = up2 V138 5 12 12 := by rw [hw136, hV138, hV137]
              have me139 : ME V V133 400 := (ME.up (ME.up (ME.up ME.rf hV137 (Or.inr (by (first | exact om_620f5006bfaa  | omega)))) hV138 (Or.inr (by (first | exact om_ded18bf8e7e5  | omega)))) hV133 (Or.inr (by (first | exact om_82aabbaa6769  | omega))))
              have mt140 : MTw V133 Z b := MTw.me mt me139 ((up2_k hV133 (by first | exact om_7395dabbef6e  | first | omega | ((try (have i_t121 := Imp.go t121 (by omega))); (try (have i_t6 := Imp.go t6 (by omega))); (try (have i_t6 := Imp.go t6 (by omega))); (try (have i_t121 := Imp.go t121 (by omega))); omega))).trans ((up2_k hV138 (by first | exact om_e32866c5f886  | first | omega | ((try (have i_t121 := Imp.go t121 (by omega))); (try (have i_t6 := Imp.go t6 (by omega))); (try (have i_t6 := Imp.go t6 (by omega))); (try (have i_t121 := Imp.go t121 (by omega))); omega))).trans (up2_k hV137 (by first | exact om_88c4fa396ee7  | first | omega | ((try (have i_t121 := Imp.go t121 (by omega))); (try (have i_t6 := Imp.go t6 (by omega))); (try (have i_t6 := Imp.go t6 (by omega))); (try (have i_t121 := Imp.go t121 (by omega))); omega)))))
              have pq141 : (V133 5 9).toInt = 2 := (congrArg Int32.toInt ((up2_k hV133 (by decide)).trans ((up2_k hV138 (by decide)).trans (up2_s hV137)))).trans (by decide)
              have rp142 : MJ V133 Z b := MTw.mj mt140 (fun q => absurd q.1 (by (first | exact om_43d8e2139c68 t131 | omega)))
              have sp9 : ¬ gm 8 (24 * z100.toInt.toNat + p0.toInt.toNat) ≠ 0 := by intro h9; have h8 := (RWn.spl (s := z100.toInt.toNat) rn (by (first | exact om_5374dac6f608 rg_p1 sc9 rgz100 pl9 f105 t109 f111 rgz112 f117 t122 f125 h9 | omega)) (by (first | exact om_88443abe1942 rg_p0 cp8 cp9 sz9 r11 r12 kc14 | omega))).mpr h9; have h7 := (t109.resolve_left (fun h6 => by have h5 := h6.1; (first | exact om_b1ddd4bbcf5e f111 h6 | omega))).2; rw [show z100.toInt.toNat = Int32.toNatClampNeg z100 from rfl, show p0.toInt.toNat = Int32.toNatClampNeg p0 from rfl, h7] at h8; exact absurd h8 (by decide)
              have bn9 : bS gB p0.toInt.toNat ≠ 3 := by omega
              have px9 : prs gm z100.toInt p0.toInt (gm 0 2).toNat = ((z112.toInt.toNat : Nat) : Int) := by have h8 := RWn.prs9 (s := z100.toInt.toNat) rn (by (first | exact om_09108f219cdd rg_p1 sc9 r16 rgz100 pl9 f105 t109 f111 rgz112 f117 t122 f125 bn9 | omega)) (show p0.toInt.toNat < nC gB from by (first | exact om_e68d948eab32 rg_p0 cp8 cp9 sz9 kc14 | omega)) bn9; rw [show ((z100.toInt.toNat : Nat) : Int) = z100.toInt from by (first | exact om_7ab5d7b1fcf7 r16 rgz100 pl9 f105 t109 f111 rgz112 f117 t122 f125 bn9 | omega), show ((p0.toInt.toNat : Nat) : Int) = p0.toInt from by (first | exact om_afbf68a3bb7e rg_p0 cp8 kc14 | omega)] at h8; have h7 := t115; rw [← h8, show 24 * z100.toInt.toNat + p0.toInt.toNat = 24 * Int32.toNatClampNeg z100 + Int32.toNatClampNeg p0 from rfl, ← h7]; (first | exact om_9ef7922e76f2 ra2 r16 rgz112 f117 t122 r123 f125 bn9 | omega)
              have kj9 : Int32.toNatClampNeg z112 = z112.toInt.toNat := rfl
              have me144 : ME V V133 gfs.length := (ME.up (ME.up (ME.up ME.rf hV137 (Or.inr (by (first | exact om_620f5006bfaa  | omega)))) hV138 (Or.inr (by (first | exact om_ded18bf8e7e5  | omega)))) hV133 (Or.inr (by (first | exact om_82aabbaa6769  | omega))))
              have rl145 : RWl V133 gB gfs tw9 := RWl.mv rl (fun i9 hi9 c9 h1 h2 => me144.2.1 c9 i9 h1 h2 hi9) (fun j9 hj9 => ((up2_o hV133 (by decide)).trans ((up2_o hV138 (by decide)).trans (up2_o hV137 (by decide))))) (by rw [((up2_o hV133 (by decide)).trans ((up2_o hV138 (by decide)).trans (up2_o hV137 (by decide))))]; exact Int.le_refl _) ((up2_o hV133 (by decide)).trans ((up2_o hV138 (by decide)).trans (up2_o hV137 (by decide))))
              have pq146 : (V133 5 6).toInt = ((V 5 6)).toInt := congrArg Int32.toInt ((up2_k hV133 (by decide)).trans ((up2_k hV138 (by decide)).trans (up2_k hV137 (by decide))))
              have pq147 : (V133 5 7).toInt = ((V 5 7)).toInt := congrArg Int32.toInt ((up2_k hV133 (by decide)).trans ((up2_k hV138 (by decide)).trans (up2_k hV137 (by decide))))
              have r148 : 0 ≤ ((V 5 7)).toInt ∧ ((V 5 7)).toInt ≤ 2048 := hMV 5 7
              have pq149 : (V133 5 11).toInt = 0 := (congrArg Int32.toInt ((up2_k hV133 (by decide)).trans (up2_s hV138))).trans (by decide)
              have pq150 : (V133 5 12).toInt = 12 := (congrArg Int32.toInt (up2_s hV133)).trans (by decide)
              have rz9 : RW V133 gB (mU (mU (mU gm 0 6 2) 0 8 0) 0 9 12, ga, gfs) := RW.fl rwq (ESw.ag (show agr [(5, 9), (5, 11), (5, 12)] [] V V133 from (agr.up (agr.up (agr.up agr.rf hV137 rfl) hV138 rfl) hV133 rfl)) (by decide)) (by (first | exact om_6aa5e6f8c558 t131 | omega)) (by (first | exact om_b66ba74381d5 pq149 | omega)) (by (first | exact om_7ec047796878 pq150 | omega)) (show (V133 5 6).toInt = ((gfs.length : Nat) : Int) from by (first | exact om_375053e3640d kdp rd rd2 pq146 | omega)) (show (V133 5 7).toInt = ((tw9 : Nat) : Int) from by rw [((up2_k hV133 (by decide)).trans ((up2_k hV138 (by decide)).trans (up2_k hV137 (by decide))))]; exact rt9) rl145
              have rx143 : RW V133 gB (seekM gB gm ga gfs p0.toInt p1.toInt p2.toInt) := by rw [sk_u pl9.1 (by (first | exact om_71b2738f6f9e r16 rgz100 pl9 f105 t109 f111 rgz112 f117 t122 f125 bn9 kj9 | omega)) sp9 bn9 px9 (fun h9 => by have h8 := (prs_b _ _ px9).1; have h7 := (rn.2.1 _ (show ((z112.toInt.toNat : Nat) : Int) < gm 0 2 from by (first | exact om_31939494ea78 ra2 r123 kj9 h8 | omega))).1.2.2; rw [← kj9] at h7 h9; omega)]; exact rz9
              refine W.know (fun kr1 kr2 => ?_)
              refine W.widen (k := zcc Z) (n := zss Z) (Nat.sub_le _ _) (Nat.sub_le _ _) ?_
              exact W.vret hx hb hr (fun t ht hW => ⟨⟨(V133, L, Z), rfl, ⟨hMV133, agV133, rfl, zoZ, rp142, rx143⟩, ⟨by rw [ht]; exact hP, va_K.moved hW.alike hK, hD⟩, by rw [ht]; exact kr1, by rw [ht]; exact kr2⟩, hS.F ht⟩) hS.2.2 dX5_seek_167
            · skip
              have f151 : z118.toInt ≠ 0 := b_neq rfl (by decide) c124
              refine lv_aload_n hx hb dX5_seek_151 rfl (lv_at hl 3 rfl) ?_
              refine lv_iload hx hb dX5_seek_152 (lv_at hl 0 rfl) ?_
              refine gA_void (gA_runV (As := [.int z112]) (rest := []) (ci := 5) (q0 := 5) hx hb hml hown hg hP hD hK hS hA hnw hgk (x_answerWith9 l D ks H.size ad kk V L Z z112 hMV ) w1304 w1306 w49 w171 w1307 rfl xgMachine hdV_yX5_answerWith ⟨Nat.le_of_ble_eq_true rfl, Nat.le_of_ble_eq_true rfl⟩ rfl hl.1 rfl (Nat.le_of_ble_eq_true rfl) dX5_seek_154 ⟨z0, z0⟩) hP hD hK hS hA (fun u153 H locs w154 hP hD hK hS => ?_)
              obtain ⟨V158, L159⟩ := u153
              obtain ⟨hMV158, ajV158, axL159, t155, t156, t157⟩ := w154
              have axL159 : L = L159 := Eq.symm axL159
              subst axL159
              replace hP : va_P D vwCl (xw ad kk V158 L Z) H := hP
              replace hD : va_D A (xw ad kk V158 L Z) := hD
              replace hMV158 : rgd bX V158 := hMV158
              replace ajV158 : agr [(5, 9), (5, 10)] [] V V158 := ajV158
              have agV158 : agr [(3, 13), (5, 6), (5, 9), (5, 10), (5, 11), (5, 12), (5, 13), (5, 14)] [25, 26, 27, 28, 30, 67, 68, 69, 70, 71, 72, 73, 74, 75, 76, 77, 78, 79, 80, 81, 82, 83, 84, 85] V V158 := agV.tr ajV158 (by decide) (by decide)
              replace t155 : (V158 5 9).toInt = 1 := t155
              replace t156 : (V158 5 10).toInt = z112.toInt := t156
              replace t157 : ((True) ∧ V158 = (up2 (up2 V 5 9 1) 5 10 z112)) := t157
              have r160 : 0 ≤ ((V158 5 9)).toInt ∧ ((V158 5 9)).toInt ≤ 3 := hMV158 5 9
              have hw161 := t157.2
              obtain ⟨V162, hV162⟩ : ∃ z, z = up2 V 5 9 1 := ⟨_, rfl⟩
              have hV158 : V158 = up2 V162 5 10 z112 := by rw [hw161, hV162]
              refine lv_goto (tgt := 167) hx hb dX5_seek_157 (by decide) ?_
              have me163 : ME V V158 400 := (ME.up (ME.up ME.rf hV162 (Or.inr (by (first | exact om_620f5006bfaa  | omega)))) hV158 (Or.inr (by (first | exact om_f41a5f4a8afd  | omega))))
              have mt164 : MTw V158 Z b := MTw.me mt me163 ((up2_k hV158 (by first | exact om_9a07b2213244  | first | omega | ((try (have i_t121 := Imp.go t121 (by omega))); (try (have i_t6 := Imp.go t6 (by omega))); (try (have i_t6 := Imp.go t6 (by omega))); (try (have i_t121 := Imp.go t121 (by omega))); omega))).trans (up2_k hV162 (by first | exact om_88c4fa396ee7  | first | omega | ((try (have i_t121 := Imp.go t121 (by omega))); (try (have i_t6 := Imp.go t6 (by omega))); (try (have i_t6 := Imp.go t6 (by omega))); (try (have i_t121 := Imp.go t121 (by omega))); omega))))
              have pq165 : (V158 5 9).toInt = 1 := (congrArg Int32.toInt ((up2_k hV158 (by decide)).trans (up2_s hV162))).trans (by decide)
              have pq166 : (V158 5 10).toInt = z112.toInt := congrArg Int32.toInt (up2_s hV158)
              have pq167 : (V158 3 13).toInt = ((V 3 13)).toInt := congrArg Int32.toInt ((up2_o hV158 (by decide)).trans (up2_o hV162 (by decide)))
              have kn1 := i_clamp (x := z112) rfl (by first | exact om_cf9a25d740bd rgz112 rgz118 t122 f151 t156 | first | omega | ((try (have i_t121 := Imp.go t121 (by omega))); (try (have i_t6 := Imp.go t6 (by omega))); (try (have i_t6 := Imp.go t6 (by omega))); (try (have i_t121 := Imp.go t121 (by omega))); omega))
              have kn2 := i_clamp (x := p0) rfl (by (first | exact om_48e09f0ccb53 rg_p0 cp8 kc14 | omega))
              have kn3 := i_clamp (x := z100) rfl (by (first | exact om_4654ac514027 rgz100 pl9 f105 t109 f111 rgz112 f117 rgz118 t122 f151 t156 kn1 | omega))
              have hpt := (mup.2.2.2.2.2.2.2.1 (24 * Int32.toNatClampNeg z100 + Int32.toNatClampNeg p0) (by (first | exact om_4de5da2956ef rg_p0 cp8 cp9 sz9 r11 r12 kc14 rgz100 pl9 kn3 | omega))).2 (Int32.toNatClampNeg z112) (by rw [← t115]; (first | exact om_38f28c82daa4 t156 kn1 | omega))
              have kn4 := i_clamp (x := V 26 (Int32.toNatClampNeg z112)) rfl (by (first | exact om_2f3cae6a190e hpt | omega))
              have hcl : Int32.toNatClampNeg (V 26 (Int32.toNatClampNeg z112)) = Int32.toNatClampNeg p0 := by (first | exact om_e01be5bb1dd6 rg_p0 cp8 cp9 sz9 r11 r12 kc14 hpt kn4 | omega)
              have nn : NN V158 b := ⟨(Int32.toNatClampNeg z112), by first | exact om_3d5804ffb997 t156 kn1 | first | omega | ((try (have i_t121 := Imp.go t121 (by omega))); (try (have i_t6 := Imp.go t6 (by omega))); (try (have i_t6 := Imp.go t6 (by omega))); (try (have i_t121 := Imp.go t121 (by omega))); omega), by first | exact om_24c50ce424e7 ra2 rgz118 t122 f151 t156 pq167 kn1 | first | omega | ((try (have i_t121 := Imp.go t121 (by omega))); (try (have i_t6 := Imp.go t6 (by omega))); (try (have i_t6 := Imp.go t6 (by omega))); (try (have i_t121 := Imp.go t121 (by omega))); omega), by rw [(((up2_o hV158 (by decide)).trans (up2_o hV162 (by decide))) : V158 26 (Int32.toNatClampNeg z112) = V 26 (Int32.toNatClampNeg z112)), hcl, ((up2_o hV158 (by decide)).trans (up2_o hV162 (by decide)))]; (first | exact om_c07457effb31 f99 rgz100 t103 pl9 f105 t109 f111 rgz112 f117 rgz118 t122 f151 t156 kn1 kn3 hpt kn4 hcl | omega)⟩
              have rp168 : MJ V158 Z b := MTw.mj mt164 (fun q => q.2 nn)
              have sp9 : ¬ gm 8 (24 * z100.toInt.toNat + p0.toInt.toNat) ≠ 0 := by intro h9; have h8 := (RWn.spl (s := z100.toInt.toNat) rn (by (first | exact om_d0921bdb7a26 rg_p1 sc9 rgz100 pl9 f105 t109 f111 rgz112 f117 rgz118 t122 f151 t156 kn1 kn3 hpt kn4 hcl h9 | omega)) (by (first | exact om_b12d7b49c41f kc14 hpt kn4 hcl | omega))).mpr h9; have h7 := (t109.resolve_left (fun h6 => by have h5 := h6.1; (first | exact om_b1ddd4bbcf5e f111 h6 | omega))).2; rw [show z100.toInt.toNat = Int32.toNatClampNeg z100 from rfl, show p0.toInt.toNat = Int32.toNatClampNeg p0 from rfl, h7] at h8; exact absurd h8 (by decide)
              have bn9 : bS gB p0.toInt.toNat ≠ 3 := by omega
              have px9 : prs gm z100.toInt p0.toInt (gm 0 2).toNat = ((z112.toInt.toNat : Nat) : Int) := by have h8 := RWn.prs9 (s := z100.toInt.toNat) rn (by (first | exact om_262da118fe96 rg_p1 sc9 r16 rgz100 pl9 f105 t109 f111 rgz112 f117 rgz118 t122 f151 t156 kn1 kn3 hpt kn4 hcl bn9 | omega)) (show p0.toInt.toNat < nC gB from by (first | exact om_92b39e042dd7 cp9 mup n24 sz9 kc14 hpt kn4 hcl | omega)) bn9; rw [show ((z100.toInt.toNat : Nat) : Int) = z100.toInt from by (first | exact om_2d88478c521c rgz100 pl9 kn3 hpt kn4 hcl | omega), show ((p0.toInt.toNat : Nat) : Int) = p0.toInt from by (first | exact om_f7e5900cd90c kc14 hpt kn4 hcl | omega)] at h8; have h7 := t115; rw [← h8, show 24 * z100.toInt.toNat + p0.toInt.toNat = 24 * Int32.toNatClampNeg z100 + Int32.toNatClampNeg p0 from rfl, ← h7]; (first | exact om_f6fe703e788f rgz112 t156 kn1 | omega)
              have kj9 : Int32.toNatClampNeg z112 = z112.toInt.toNat := rfl
              have ms9 : gm 3 z112.toInt.toNat = 1 := by have h7 := (rn.2.1 z112.toInt.toNat (by (first | exact om_d03817c340e0 ra2 r16 rgz112 rgz118 t122 f151 t156 pq167 kn1 bn9 kj9 | omega))).1.2.2; rw [← kj9] at h7 ⊢; omega
              have me170 : ME V V158 gfs.length := (ME.up (ME.up ME.rf hV162 (Or.inr (by (first | exact om_620f5006bfaa  | omega)))) hV158 (Or.inr (by (first | exact om_f41a5f4a8afd  | omega))))
              have rl171 : RWl V158 gB gfs tw9 := RWl.mv rl (fun i9 hi9 c9 h1 h2 => me170.2.1 c9 i9 h1 h2 hi9) (fun j9 hj9 => ((up2_o hV158 (by decide)).trans (up2_o hV162 (by decide)))) (by rw [((up2_o hV158 (by decide)).trans (up2_o hV162 (by decide)))]; exact Int.le_refl _) ((up2_o hV158 (by decide)).trans (up2_o hV162 (by decide)))
              have pq172 : (V158 5 6).toInt = ((V 5 6)).toInt := congrArg Int32.toInt ((up2_k hV158 (by decide)).trans (up2_k hV162 (by decide)))
              have pq173 : (V158 5 7).toInt = ((V 5 7)).toInt := congrArg Int32.toInt ((up2_k hV158 (by decide)).trans (up2_k hV162 (by decide)))
              have r174 : 0 ≤ ((V 5 7)).toInt ∧ ((V 5 7)).toInt ≤ 2048 := hMV 5 7
              have pq175 : (V158 5 11).toInt = ((V 5 11)).toInt := congrArg Int32.toInt ((up2_k hV158 (by decide)).trans (up2_k hV162 (by decide)))
              have pq176 : (V158 5 12).toInt = ((V 5 12)).toInt := congrArg Int32.toInt ((up2_k hV158 (by decide)).trans (up2_k hV162 (by decide)))
              have rz9 : RW V158 gB (mU gm 0 6 1, (nI z112.toInt.toNat), gfs) := RW.sgn rwq (ESw.ag (show agr [(5, 9), (5, 10)] [] V V158 from (agr.up (agr.up agr.rf hV162 rfl) hV158 rfl)) (by decide)) (by (first | exact om_710535a98d88 t155 | omega)) (fun _ => (up2_s hV158).trans (nI_cl (x := z112) (by (first | exact om_27b5baffcdc4 rgz112 t156 kn1 kj9 | omega))).symm) (fun h9 => absurd h9 (by decide)) (show (V158 5 6).toInt = ((gfs.length : Nat) : Int) from by (first | exact om_375053e3640d kdp rd rd2 pq172 | omega)) (show (V158 5 7).toInt = ((tw9 : Nat) : Int) from by rw [((up2_k hV158 (by decide)).trans (up2_k hV162 (by decide)))]; exact rt9) rl171
              have rx169 : RW V158 gB (seekM gB gm ga gfs p0.toInt p1.toInt p2.toInt) := by rw [sk_a pl9.1 (by (first | exact om_5d5819ba79b6 rgz100 pl9 kn3 hpt kn4 hcl | omega)) sp9 bn9 px9 ms9]; exact rz9
              refine W.know (fun kr1 kr2 => ?_)
              refine W.widen (k := zcc Z) (n := zss Z) (Nat.sub_le _ _) (Nat.sub_le _ _) ?_
              exact W.vret hx hb hr (fun t ht hW => ⟨⟨(V158, L, Z), rfl, ⟨hMV158, agV158, rfl, zoZ, rp168, rx169⟩, ⟨by rw [ht]; exact hP, va_K.moved hW.alike hK, hD⟩, by rw [ht]; exact kr1, by rw [ht]; exact kr2⟩, hS.F ht⟩) hS.2.2 dX5_seek_167
          · skip
            have f177 : z112.toInt = (-1) := b_eq rfl (by decide) c116
            have hu8 : bS gB p0.toInt.toNat ≠ 3 → prs gm z100.toInt p0.toInt (gm 0 2).toNat < 0 := fun h9 => by have h8 := RWn.prs9 (s := z100.toInt.toNat) rn (by (first | exact om_e0753697bc2b rg_p1 sc9 r16 rgz100 pl9 f105 t109 f111 h9 | omega)) (show p0.toInt.toNat < nC gB from by (first | exact om_e68d948eab32 rg_p0 cp8 cp9 sz9 kc14 | omega)) h9; rw [show ((z100.toInt.toNat : Nat) : Int) = z100.toInt from by (first | exact om_20044f06506d r16 rgz100 pl9 f105 t109 f111 h9 | omega), show ((p0.toInt.toNat : Nat) : Int) = p0.toInt from by (first | exact om_afbf68a3bb7e rg_p0 cp8 kc14 | omega)] at h8; have h7 := t115; rw [← h8, show 24 * z100.toInt.toNat + p0.toInt.toNat = 24 * Int32.toNatClampNeg z100 + Int32.toNatClampNeg p0 from rfl, ← h7]; (first | exact om_2942e3fd8b93 f177 | omega)
            refine lv_aload_n hx hb dX5_seek_126 rfl (lv_at hl 3 rfl) ?_
            refine lv_iload_n hx hb dX5_seek_127 rfl (lv_at hl 4 rfl) ?_
            refine lv_iload hx hb dX5_seek_128 (lv_at hl 1 rfl) ?_
            refine lv_iload_n hx hb dX5_seek_130 rfl (lv_at hl 6 rfl) ?_
            refine lv_iload hx hb dX5_seek_131 (lv_at hl 2 rfl) ?_
            have r178 : Int32.toInt 1 = 1 := by decide
            refine W.know (fun k180 k181 => ?_)
            obtain ⟨Hk179, hHk179⟩ : ∃ z, z = H := ⟨_, rfl⟩
            have k180 : Hk179.size ≤ s.heap.size + (zcc Z - zcc Z) := by rw [hHk179]; exact k180
            have k181 : tot Hk179 ≤ tot s.heap + (zss Z - zss Z) := by rw [hHk179]; exact k181
            refine gZ_void (gA_runV (As := [.int p0, .int z100, .int p2, .int 1]) (rest := []) (ci := 5) (q0 := 5) hx hb hml hown hg hP hD hK hS hA hnw hgk (x_beginMaking9 l D ks H.size ad kk V L Z p0 z100 p2 1 (b) (gB) (gm) (ga) (gfs) hMV (by first | exact om_3aaa083d8f35 rg_p0 cp8 cp9 sz9 r11 r12 kc14 | first | omega | ((try (have i_t6 := Imp.go t6 (by omega))); omega)) (by first | exact om_a86cb2e9a281 rgz100 pl9 f105 t109 f111 hu8 | first | omega | ((try (have i_t6 := Imp.go t6 (by omega))); omega)) (by decide) (show b < 2 from by first | exact om_289974d36c9f hb2 mup | first | omega | ((try (have i_t6 := Imp.go t6 (by omega))); omega)) mt (show p0.toInt < (V 43 (5 * b + 2)).toInt from by first | exact om_a35385f70713 cp9 sz9 kc14 | first | omega | ((try (have i_t6 := Imp.go t6 (by omega))); omega)) rwq bc (show (V 5 6).toInt ≤ 395 from by first | exact om_365aebac5e00 dp9 r1 kdp rd rd2 | first | omega | ((try (have i_t6 := Imp.go t6 (by omega))); omega)) (show 0 ≤ p0.toInt from by first | exact om_48e09f0ccb53 rg_p0 cp8 kc14 | first | omega | ((try (have i_t6 := Imp.go t6 (by omega))); omega)) (show p0.toInt < ((nC gB : Nat) : Int) from by first | exact om_c448efd652e2 cp9 sz9 kc14 | first | omega | ((try (have i_t6 := Imp.go t6 (by omega))); omega)) (show 0 ≤ z100.toInt from by first | exact om_090333bd5f8e rgz100 pl9 f105 t109 f111 hu8 | first | omega | ((try (have i_t6 := Imp.go t6 (by omega))); omega)) (show z100.toInt < (V 3 12).toInt from by first | exact om_a1bacf9e47ae rgz100 pl9 f105 t109 f111 hu8 | first | omega | ((try (have i_t6 := Imp.go t6 (by omega))); omega)) hu8 (Or.inl ⟨by decide, by omega⟩)) w1277 w1279 w47 w171 w1280 rfl xgMachine hdV_yX5_beginMaking ⟨Nat.le_of_ble_eq_true rfl, Nat.le_of_ble_eq_true rfl⟩ rfl hl.1 rfl (Nat.le_of_ble_eq_true rfl) dX5_seek_133 ⟨z1 zoZ.1, z1 zoZ.2.1⟩) hD hS hA (fun u183 H locs w184 hP hD hK hS y185 y186 => ?_)
            obtain ⟨V187, L188, Z189⟩ := u183
            obtain ⟨hMV187, ajV187, axL188, zlZ189, t191, t192⟩ := w184
            have axL188 : L = L188 := Eq.symm axL188
            subst axL188
            replace hP : va_P D vwCl (xw ad kk V187 L Z189) H := hP
            replace hD : va_D A (xw ad kk V187 L Z189) := hD
            replace hK : va_K D vwCl (xty kk Z189) s := hK
            replace hMV187 : rgd bX V187 := hMV187
            replace ajV187 : agr [(3, 13), (5, 6), (5, 9), (5, 11), (5, 12), (5, 13), (5, 14)] [25, 26, 27, 28, 30, 67, 68, 69, 70, 71, 72, 73, 74, 75, 76, 77, 78, 79, 80, 81, 82, 83, 84, 85] V V187 := ajV187
            have agV187 : agr [(3, 13), (5, 6), (5, 9), (5, 10), (5, 11), (5, 12), (5, 13), (5, 14)] [25, 26, 27, 28, 30, 67, 68, 69, 70, 71, 72, 73, 74, 75, 76, 77, 78, 79, 80, 81, 82, 83, 84, 85] V V187 := agV.tr ajV187 (by decide) (by decide)
            replace zlZ189 : ZL Z Z189 := zlZ189
            have zoZ189 : ZL Z Z189 := ZL.tr zoZ zlZ189
            have ziZ189 := zlZ189.1
            have zjZ189 := zlZ189.2.1
            have zkZ189 := zlZ189.2.2.1
            have zmZ189 := zoZ189.1
            have znZ189 := zoZ189.2.1
            have zpZ_Z189 := zoZ.1
            have zqZ_Z189 := zoZ.2.1
            have y185 : H.size ≤ Hk179.size + (zcc Z - zcc Z189) := by rw [hHk179]; exact y185
            have y186 : tot H ≤ tot Hk179 + (zss Z - zss Z189) := by rw [hHk179]; exact y186
            refine W.tight (k := zcc Z - zcc Z189) (n := zss Z - zss Z189) (by first | exact tg9 y185 k180 zlZ189.1 zoZ.1 | omega) (by first | exact tg9 y186 k181 zlZ189.2.1 zoZ.2.1 | omega) ?_
            replace t191 : MJ V187 Z189 b := t191
            replace t192 : RW V187 gB (makeM gm ga gfs p0.toInt z100.toInt p2.toInt) := t192
            refine lv_goto (tgt := 167) hx hb dX5_seek_136 (by decide) ?_
            have sp9 : ¬ gm 8 (24 * z100.toInt.toNat + p0.toInt.toNat) ≠ 0 := by intro h9; have h8 := (RWn.spl (s := z100.toInt.toNat) rn (by (first | exact om_eb0b540defb8 rg_p1 sc9 rgz100 pl9 f105 t109 f111 hu8 ziZ189 zjZ189 h9 | omega)) (by (first | exact om_88443abe1942 rg_p0 cp8 cp9 sz9 r11 r12 kc14 | omega))).mpr h9; have h7 := (t109.resolve_left (fun h6 => by have h5 := h6.1; (first | exact om_b1ddd4bbcf5e f111 h6 | omega))).2; rw [show z100.toInt.toNat = Int32.toNatClampNeg z100 from rfl, show p0.toInt.toNat = Int32.toNatClampNeg p0 from rfl, h7] at h8; exact absurd h8 (by decide)
            have rx193 : RW V187 gB (seekM gB gm ga gfs p0.toInt p1.toInt p2.toInt) := by rw [sk_m pl9.1 (by (first | exact om_e4e054164e85 rgz100 pl9 f105 t109 f111 hu8 ziZ189 zjZ189 | omega)) sp9 (Or.inr (hu8 (by omega)))]; exact t192
            refine W.know (fun kr1 kr2 => ?_)
            refine W.widen (k := zcc Z) (n := zss Z) (Nat.sub_le _ _) (Nat.sub_le _ _) ?_
            exact W.vret hx hb hr (fun t ht hW => ⟨⟨(V187, L, Z189), rfl, ⟨hMV187, agV187, rfl, zoZ189, t191, rx193⟩, ⟨by rw [ht]; exact hP, va_K.moved hW.alike hK, hD⟩, by rw [ht]; exact kr1, by rw [ht]; exact kr2⟩, hS.F ht⟩) hS.2.2 dX5_seek_167
        · skip
          have f194 : z106.toInt ≠ 0 := b_neq rfl (by decide) c110
          refine lv_aload_n hx hb dX5_seek_91 rfl (lv_at hl 2 rfl) ?_
          refine lv_iconst (v := 0) hx hb dX5_seek_92 (by decide) ?_
          refine lv_bipush (v := 15) hx hb dX5_seek_93 (by decide) ?_
          have r195 : Int32.toInt 0 = 0 := by decide
          have r196 : Int32.toInt 15 = 15 := by decide
          refine gA_void (gA_runV (As := [.int 0, .int 15]) (rest := []) (ci := 5) (q0 := 5) hx hb hml hown hg hP hD hK hS hA hnw hgk (x_failWith9 l D ks H.size ad kk V L Z 0 15 hMV ) w1261 w1263 w46 w171 w1264 rfl xgMachine hdV_yX5_failWith ⟨Nat.le_of_ble_eq_true rfl, Nat.le_of_ble_eq_true rfl⟩ rfl hl.1 rfl (Nat.le_of_ble_eq_true rfl) dX5_seek_95 ⟨z0, z0⟩) hP hD hK hS hA (fun u198 H locs w199 hP hD hK hS => ?_)
          obtain ⟨V202, L203⟩ := u198
          obtain ⟨hMV202, ajV202, axL203, t200, t201⟩ := w199
          have axL203 : L = L203 := Eq.symm axL203
          subst axL203
          replace hP : va_P D vwCl (xw ad kk V202 L Z) H := hP
          replace hD : va_D A (xw ad kk V202 L Z) := hD
          replace hMV202 : rgd bX V202 := hMV202
          replace ajV202 : agr [(5, 9), (5, 11), (5, 12)] [] V V202 := ajV202
          have agV202 : agr [(3, 13), (5, 6), (5, 9), (5, 10), (5, 11), (5, 12), (5, 13), (5, 14)] [25, 26, 27, 28, 30, 67, 68, 69, 70, 71, 72, 73, 74, 75, 76, 77, 78, 79, 80, 81, 82, 83, 84, 85] V V202 := agV.tr ajV202 (by decide) (by decide)
          replace t200 : (V202 5 9).toInt = 2 := t200
          replace t201 : ((True) ∧ V202 = (up2 (up2 (up2 V 5 9 2) 5 11 0) 5 12 15)) := t201
          have r204 : 0 ≤ ((V202 5 9)).toInt ∧ ((V202 5 9)).toInt ≤ 3 := hMV202 5 9
          have hw205 := t201.2
          obtain ⟨V206, hV206⟩ : ∃ z, z = up2 V 5 9 2 := ⟨_, rfl⟩
          obtain ⟨V207, hV207⟩ : ∃ z, z = up2 V206 5 11 0 := ⟨_, rfl⟩
          have hV202 : V202 = up2 V207 5 12 15 := by rw [hw205, hV207, hV206]
          have me208 : ME V V202 400 := (ME.up (ME.up (ME.up ME.rf hV206 (Or.inr (by (first | exact om_620f5006bfaa  | omega)))) hV207 (Or.inr (by (first | exact om_ded18bf8e7e5  | omega)))) hV202 (Or.inr (by (first | exact om_82aabbaa6769  | omega))))
          have mt209 : MTw V202 Z b := MTw.me mt me208 ((up2_k hV202 (by first | exact om_7395dabbef6e  | first | omega | ((try (have i_t6 := Imp.go t6 (by omega))); omega))).trans ((up2_k hV207 (by first | exact om_e32866c5f886  | first | omega | ((try (have i_t6 := Imp.go t6 (by omega))); omega))).trans (up2_k hV206 (by first | exact om_88c4fa396ee7  | first | omega | ((try (have i_t6 := Imp.go t6 (by omega))); omega)))))
          have pq210 : (V202 5 9).toInt = 2 := (congrArg Int32.toInt ((up2_k hV202 (by decide)).trans ((up2_k hV207 (by decide)).trans (up2_s hV206)))).trans (by decide)
          have rp211 : MJ V202 Z b := MTw.mj mt209 (fun q => absurd q.1 (by (first | exact om_43d8e2139c68 t200 | omega)))
          have sp9 :  gm 8 (24 * z100.toInt.toNat + p0.toInt.toNat) ≠ 0 := by exact (RWn.spl (s := z100.toInt.toNat) rn (by (first | exact om_7da54377d91e rg_p1 sc9 rgz100 pl9 f105 rgz106 t109 f194 | omega)) (by (first | exact om_88443abe1942 rg_p0 cp8 cp9 sz9 r11 r12 kc14 | omega))).mp (t109.resolve_right (fun h9 => by have h8 := h9.1; (first | exact om_2cb0a3239a5e f194 h9 | omega))).2
          have me213 : ME V V202 gfs.length := (ME.up (ME.up (ME.up ME.rf hV206 (Or.inr (by (first | exact om_620f5006bfaa  | omega)))) hV207 (Or.inr (by (first | exact om_ded18bf8e7e5  | omega)))) hV202 (Or.inr (by (first | exact om_82aabbaa6769  | omega))))
          have rl214 : RWl V202 gB gfs tw9 := RWl.mv rl (fun i9 hi9 c9 h1 h2 => me213.2.1 c9 i9 h1 h2 hi9) (fun j9 hj9 => ((up2_o hV202 (by decide)).trans ((up2_o hV207 (by decide)).trans (up2_o hV206 (by decide))))) (by rw [((up2_o hV202 (by decide)).trans ((up2_o hV207 (by decide)).trans (up2_o hV206 (by decide))))]; exact Int.le_refl _) ((up2_o hV202 (by decide)).trans ((up2_o hV207 (by decide)).trans (up2_o hV206 (by decide))))
          have pq215 : (V202 5 6).toInt = ((V 5 6)).toInt := congrArg Int32.toInt ((up2_k hV202 (by decide)).trans ((up2_k hV207 (by decide)).trans (up2_k hV206 (by decide))))
          have pq216 : (V202 5 7).toInt = ((V 5 7)).toInt := congrArg Int32.toInt ((up2_k hV202 (by decide)).trans ((up2_k hV207 (by decide)).trans (up2_k hV206 (by decide))))
          have r217 : 0 ≤ ((V 5 7)).toInt ∧ ((V 5 7)).toInt ≤ 2048 := hMV 5 7
          have pq218 : (V202 5 11).toInt = 0 := (congrArg Int32.toInt ((up2_k hV202 (by decide)).trans (up2_s hV207))).trans (by decide)
          have pq219 : (V202 5 12).toInt = 15 := (congrArg Int32.toInt (up2_s hV202)).trans (by decide)
          have rz9 : RW V202 gB (mU (mU (mU gm 0 6 2) 0 8 0) 0 9 15, ga, gfs) := RW.fl rwq (ESw.ag (show agr [(5, 9), (5, 11), (5, 12)] [] V V202 from (agr.up (agr.up (agr.up agr.rf hV206 rfl) hV207 rfl) hV202 rfl)) (by decide)) (by (first | exact om_6aa5e6f8c558 t200 | omega)) (by (first | exact om_b66ba74381d5 pq218 | omega)) (by (first | exact om_e23a309f9e80 pq219 | omega)) (show (V202 5 6).toInt = ((gfs.length : Nat) : Int) from by (first | exact om_375053e3640d kdp rd rd2 pq215 | omega)) (show (V202 5 7).toInt = ((tw9 : Nat) : Int) from by rw [((up2_k hV202 (by decide)).trans ((up2_k hV207 (by decide)).trans (up2_k hV206 (by decide))))]; exact rt9) rl214
          have rx212 : RW V202 gB (seekM gB gm ga gfs p0.toInt p1.toInt p2.toInt) := by rw [sk_s pl9.1 (by (first | exact om_1ecf1b590386 rgz100 pl9 f105 rgz106 t109 f194 sp9 | omega)) sp9]; exact rz9
          refine W.know (fun kr1 kr2 => ?_)
          refine W.widen (k := zcc Z) (n := zss Z) (Nat.sub_le _ _) (Nat.sub_le _ _) ?_
          exact W.vret hx hb hr (fun t ht hW => ⟨⟨(V202, L, Z), rfl, ⟨hMV202, agV202, rfl, zoZ, rp211, rx212⟩, ⟨by rw [ht]; exact hP, va_K.moved hW.alike hK, hD⟩, by rw [ht]; exact kr1, by rw [ht]; exact kr2⟩, hS.F ht⟩) hS.2.2 dX5_seek_98
      · skip
        have f220 : z100.toInt = (-1) := b_eq rfl (by decide) c104
        refine lv_aload_n hx hb dX5_seek_70 rfl (lv_at hl 2 rfl) ?_
        refine lv_iconst (v := 0) hx hb dX5_seek_71 (by decide) ?_
        refine lv_bipush (v := 14) hx hb dX5_seek_72 (by decide) ?_
        have r221 : Int32.toInt 0 = 0 := by decide
        have r222 : Int32.toInt 14 = 14 := by decide
        refine gA_void (gA_runV (As := [.int 0, .int 14]) (rest := []) (ci := 5) (q0 := 5) hx hb hml hown hg hP hD hK hS hA hnw hgk (x_failWith9 l D ks H.size ad kk V L Z 0 14 hMV ) w1261 w1263 w46 w171 w1264 rfl xgMachine hdV_yX5_failWith ⟨Nat.le_of_ble_eq_true rfl, Nat.le_of_ble_eq_true rfl⟩ rfl hl.1 rfl (Nat.le_of_ble_eq_true rfl) dX5_seek_74 ⟨z0, z0⟩) hP hD hK hS hA (fun u224 H locs w225 hP hD hK hS => ?_)
        obtain ⟨V228, L229⟩ := u224
        obtain ⟨hMV228, ajV228, axL229, t226, t227⟩ := w225
        have axL229 : L = L229 := Eq.symm axL229
        subst axL229
        replace hP : va_P D vwCl (xw ad kk V228 L Z) H := hP
        replace hD : va_D A (xw ad kk V228 L Z) := hD
        replace hMV228 : rgd bX V228 := hMV228
        replace ajV228 : agr [(5, 9), (5, 11), (5, 12)] [] V V228 := ajV228
        have agV228 : agr [(3, 13), (5, 6), (5, 9), (5, 10), (5, 11), (5, 12), (5, 13), (5, 14)] [25, 26, 27, 28, 30, 67, 68, 69, 70, 71, 72, 73, 74, 75, 76, 77, 78, 79, 80, 81, 82, 83, 84, 85] V V228 := agV.tr ajV228 (by decide) (by decide)
        replace t226 : (V228 5 9).toInt = 2 := t226
        replace t227 : ((True) ∧ V228 = (up2 (up2 (up2 V 5 9 2) 5 11 0) 5 12 14)) := t227
        have r230 : 0 ≤ ((V228 5 9)).toInt ∧ ((V228 5 9)).toInt ≤ 3 := hMV228 5 9
        have hw231 := t227.2
        obtain ⟨V232, hV232⟩ : ∃ z, z = up2 V 5 9 2 := ⟨_, rfl⟩
        obtain ⟨V233, hV233⟩ : ∃ z, z = up2 V232 5 11 0 := ⟨_, rfl⟩
        have hV228 : V228 = up2 V233 5 12 14 := by rw [hw231, hV233, hV232]
        have me234 : ME V V228 400 := (ME.up (ME.up (ME.up ME.rf hV232 (Or.inr (by (first | exact om_620f5006bfaa  | omega)))) hV233 (Or.inr (by (first | exact om_ded18bf8e7e5  | omega)))) hV228 (Or.inr (by (first | exact om_82aabbaa6769  | omega))))
        have mt235 : MTw V228 Z b := MTw.me mt me234 ((up2_k hV228 (by first | exact om_7395dabbef6e  | first | omega | ((try (have i_t6 := Imp.go t6 (by omega))); omega))).trans ((up2_k hV233 (by first | exact om_e32866c5f886  | first | omega | ((try (have i_t6 := Imp.go t6 (by omega))); omega))).trans (up2_k hV232 (by first | exact om_88c4fa396ee7  | first | omega | ((try (have i_t6 := Imp.go t6 (by omega))); omega)))))
        have pq236 : (V228 5 9).toInt = 2 := (congrArg Int32.toInt ((up2_k hV228 (by decide)).trans ((up2_k hV233 (by decide)).trans (up2_s hV232)))).trans (by decide)
        have rp237 : MJ V228 Z b := MTw.mj mt235 (fun q => absurd q.1 (by (first | exact om_43d8e2139c68 t226 | omega)))
        have me239 : ME V V228 gfs.length := (ME.up (ME.up (ME.up ME.rf hV232 (Or.inr (by (first | exact om_620f5006bfaa  | omega)))) hV233 (Or.inr (by (first | exact om_ded18bf8e7e5  | omega)))) hV228 (Or.inr (by (first | exact om_82aabbaa6769  | omega))))
        have rl240 : RWl V228 gB gfs tw9 := RWl.mv rl (fun i9 hi9 c9 h1 h2 => me239.2.1 c9 i9 h1 h2 hi9) (fun j9 hj9 => ((up2_o hV228 (by decide)).trans ((up2_o hV233 (by decide)).trans (up2_o hV232 (by decide))))) (by rw [((up2_o hV228 (by decide)).trans ((up2_o hV233 (by decide)).trans (up2_o hV232 (by decide))))]; exact Int.le_refl _) ((up2_o hV228 (by decide)).trans ((up2_o hV233 (by decide)).trans (up2_o hV232 (by decide))))
        have pq241 : (V228 5 6).toInt = ((V 5 6)).toInt := congrArg Int32.toInt ((up2_k hV228 (by decide)).trans ((up2_k hV233 (by decide)).trans (up2_k hV232 (by decide))))
        have pq242 : (V228 5 7).toInt = ((V 5 7)).toInt := congrArg Int32.toInt ((up2_k hV228 (by decide)).trans ((up2_k hV233 (by decide)).trans (up2_k hV232 (by decide))))
        have r243 : 0 ≤ ((V 5 7)).toInt ∧ ((V 5 7)).toInt ≤ 2048 := hMV 5 7
        have pq244 : (V228 5 11).toInt = 0 := (congrArg Int32.toInt ((up2_k hV228 (by decide)).trans (up2_s hV233))).trans (by decide)
        have pq245 : (V228 5 12).toInt = 14 := (congrArg Int32.toInt (up2_s hV228)).trans (by decide)
        have rz9 : RW V228 gB (mU (mU (mU gm 0 6 2) 0 8 0) 0 9 14, ga, gfs) := RW.fl rwq (ESw.ag (show agr [(5, 9), (5, 11), (5, 12)] [] V V228 from (agr.up (agr.up (agr.up agr.rf hV232 rfl) hV233 rfl) hV228 rfl)) (by decide)) (by (first | exact om_6aa5e6f8c558 t226 | omega)) (by (first | exact om_b66ba74381d5 pq244 | omega)) (by (first | exact om_07283b2e1291 pq245 | omega)) (show (V228 5 6).toInt = ((gfs.length : Nat) : Int) from by (first | exact om_375053e3640d kdp rd rd2 pq241 | omega)) (show (V228 5 7).toInt = ((tw9 : Nat) : Int) from by rw [((up2_k hV228 (by decide)).trans ((up2_k hV233 (by decide)).trans (up2_k hV232 (by decide))))]; exact rt9) rl240
        have rx238 : RW V228 gB (seekM gB gm ga gfs p0.toInt p1.toInt p2.toInt) := by rw [sk_p pl9.1 (by (first | exact om_5bc6cfeb5ce7 pl9 f220 | omega))]; exact rz9
        refine W.know (fun kr1 kr2 => ?_)
        refine W.widen (k := zcc Z) (n := zss Z) (Nat.sub_le _ _) (Nat.sub_le _ _) ?_
        exact W.vret hx hb hr (fun t ht hW => ⟨⟨(V228, L, Z), rfl, ⟨hMV228, agV228, rfl, zoZ, rp237, rx238⟩, ⟨by rw [ht]; exact hP, va_K.moved hW.alike hK, hD⟩, by rw [ht]; exact kr1, by rw [ht]; exact kr2⟩, hS.F ht⟩) hS.2.2 dX5_seek_77
  · skip
    have f246 : z3.toInt = 0 := b_eq rfl (by decide) c8
    refine lv_aload_n hx hb dX5_seek_11 rfl (lv_at hl 0 rfl) ?_
    refine lv_iconst (v := 0) hx hb dX5_seek_12 (by decide) ?_
    refine lv_bipush (v := 14) hx hb dX5_seek_13 (by decide) ?_
    have r247 : Int32.toInt 0 = 0 := by decide
    have r248 : Int32.toInt 14 = 14 := by decide
    refine gA_void (gA_runV (As := [.int 0, .int 14]) (rest := []) (ci := 5) (q0 := 5) hx hb hml hown hg hP hD hK hS hA hnw hgk (x_failWith9 l D ks H.size ad kk V L Z 0 14 hMV ) w1261 w1263 w46 w171 w1264 rfl xgMachine hdV_yX5_failWith ⟨Nat.le_of_ble_eq_true rfl, Nat.le_of_ble_eq_true rfl⟩ rfl hl.1 rfl (Nat.le_of_ble_eq_true rfl) dX5_seek_15 ⟨z0, z0⟩) hP hD hK hS hA (fun u250 H locs w251 hP hD hK hS => ?_)
    obtain ⟨V254, L255⟩ := u250
    obtain ⟨hMV254, ajV254, axL255, t252, t253⟩ := w251
    have axL255 : L = L255 := Eq.symm axL255
    subst axL255
    replace hP : va_P D vwCl (xw ad kk V254 L Z) H := hP
    replace hD : va_D A (xw ad kk V254 L Z) := hD
    replace hMV254 : rgd bX V254 := hMV254
    replace ajV254 : agr [(5, 9), (5, 11), (5, 12)] [] V V254 := ajV254
    have agV254 : agr [(3, 13), (5, 6), (5, 9), (5, 10), (5, 11), (5, 12), (5, 13), (5, 14)] [25, 26, 27, 28, 30, 67, 68, 69, 70, 71, 72, 73, 74, 75, 76, 77, 78, 79, 80, 81, 82, 83, 84, 85] V V254 := agV.tr ajV254 (by decide) (by decide)
    replace t252 : (V254 5 9).toInt = 2 := t252
    replace t253 : ((True) ∧ V254 = (up2 (up2 (up2 V 5 9 2) 5 11 0) 5 12 14)) := t253
    have r256 : 0 ≤ ((V254 5 9)).toInt ∧ ((V254 5 9)).toInt ≤ 3 := hMV254 5 9
    have hw257 := t253.2
    obtain ⟨V258, hV258⟩ : ∃ z, z = up2 V 5 9 2 := ⟨_, rfl⟩
    obtain ⟨V259, hV259⟩ : ∃ z, z = up2 V258 5 11 0 := ⟨_, rfl⟩
    have hV254 : V254 = up2 V259 5 12 14 := by rw [hw257, hV259, hV258]
    have me260 : ME V V254 400 := (ME.up (ME.up (ME.up ME.rf hV258 (Or.inr (by (first | exact om_620f5006bfaa  | omega)))) hV259 (Or.inr (by (first | exact om_ded18bf8e7e5  | omega)))) hV254 (Or.inr (by (first | exact om_82aabbaa6769  | omega))))
    have mt261 : MTw V254 Z b := MTw.me mt me260 ((up2_k hV254 (by first | exact om_7395dabbef6e  | first | omega | ((try (have i_t6 := Imp.go t6 (by omega))); omega))).trans ((up2_k hV259 (by first | exact om_e32866c5f886  | first | omega | ((try (have i_t6 := Imp.go t6 (by omega))); omega))).trans (up2_k hV258 (by first | exact om_88c4fa396ee7  | first | omega | ((try (have i_t6 := Imp.go t6 (by omega))); omega)))))
    have pq262 : (V254 5 9).toInt = 2 := (congrArg Int32.toInt ((up2_k hV254 (by decide)).trans ((up2_k hV259 (by decide)).trans (up2_s hV258)))).trans (by decide)
    have rp263 : MJ V254 Z b := MTw.mj mt261 (fun q => absurd q.1 (by (first | exact om_43d8e2139c68 t252 | omega)))
    refine W.know (fun kr1 kr2 => ?_)
    refine W.widen (k := zcc Z) (n := zss Z) (Nat.sub_le _ _) (Nat.sub_le _ _) ?_
    exact W.vret hx hb hr (fun t ht hW => ⟨⟨(V254, L, Z), rfl, ⟨hMV254, agV254, rfl, zoZ, rp263, (by exfalso; (first | exact om_bd7acf8e0f23 rg_p0 cp8 cp9 sz9 t7 f246 | omega))⟩, ⟨by rw [ht]; exact hP, va_K.moved hW.alike hK, hD⟩, by rw [ht]; exact kr1, by rw [ht]; exact kr2⟩, hS.F ht⟩) hS.2.2 dX5_seek_18
abbrev r_x_undoNext9 (Z : XZ) : Room := { frames := 4, cells := zcc Z, slots := zss Z, locals := 88 }
abbrev q_x_undoNext9 (D : va_G) (ks : KS) (ad : Nat → Nat) (kk : Nat → ClassId) (V : Vf) (L : Lf) (Z : XZ) (b : Nat) (gf : Nat) (gB : Bk) (gm : Mm) (ga : Int32) (gr : List Fr) (glv : Int) (gmk : Int) (gnd : Int) (gfl : Int) (gsp : Int) (A : Nat → Prop) : Array Value → State → Outcome → State → Prop := qZv D (fun (u : Vf × Lf × XZ) => rgd bX u.1 ∧ agr [(5, 6), (5, 8), (5, 9), (5, 11), (5, 12)] [67, 68, 69, 70, 71, 72, 73, 74, 75, 76, 77, 78, 79, 80, 81, 82, 83, 84, 85] V u.1 ∧ u.2.1 = L ∧ ZL Z u.2.2 ∧ (MJ u.1 u.2.2 b) ∧ (RW u.1 gB (undoM gm ga gr glv gmk gnd gfl gsp))) (fun u => xw ad kk u.1 u.2.1 u.2.2) (fun u => xty kk u.2.2) (fun u => zcc Z - zcc u.2.2) (fun u => zss Z - zss u.2.2) A
set_option maxHeartbeats 4000000 in
set_option maxRecDepth 100000 in
theorem x_undoNext9 (l : Launch) (D : va_G) (ks : KS) (sz : Nat) (ad : Nat → Nat) (kk : Nat → ClassId) (V : Vf) (L : Lf) (Z : XZ) (b : Nat) (gf : Nat) (gB : Bk) (gm : Mm) (ga : Int32) (gr : List Fr) (glv : Int) (gmk : Int) (gnd : Int) (gfl : Int) (gsp : Int) (hMV : rgd bX V) (hb2 : b < 2) (hgf : gf < Z.nf) (mo : MO V Z b gf True True False) (gd : (gf : Int) + 1 = (V 5 6).toInt) (gk : (V 67 gf).toInt = 0) (rwq : RW V gB (gm, ga, Froot2 glv gmk gnd gfl gsp :: gr)) (bc : BKc V b gB) (dp9 : (V 5 6).toInt ≤ 395) (ph0 : (V 68 gf).toInt = 2)  : Met l yX5_undoNext (Cond.code yX5_undoNext cX5_undoNext 2 none :: GW) (r_x_undoNext9 Z) (va_Pc [.ref (ad 5), .ref (Z.fa gf)] (gp D ks (xw ad kk V L Z) (xty kk Z) sz)) (q_x_undoNext9 D ks ad kk V L Z  b gf gB gm ga gr glv gmk gnd gfl gsp (va_A (xw ad kk V L Z) sz)) (zcc Z) (zss Z) (va_A (xw ad kk V L Z) sz) := by
  refine g_met (q_x_undoNext9 D ks ad kk V L Z  b gf gB gm ga gr glv gmk gnd gfl gsp) (by decide) (Nat.le_of_ble_eq_true rfl) ?_
  intro p e s m below meth c A ls H locs hx hb hr hml hown hg hlocks hin hnw hgk hP hK hD hS hA hl
  replace hown : s.vm.findClass RX5 = some m.cls := hown
  replace hl : lv_has ls 2 [(0, .ref (ad 5)), (1, .ref (Z.fa gf))] := hl
  replace hP : va_P D vwCl (xw ad kk V L Z) H := hP
  replace hD : va_D A (xw ad kk V L Z) := hD
  replace hK : va_K D vwCl (xty kk Z) s := hK
  have agV : agr [(5, 6), (5, 8), (5, 9), (5, 11), (5, 12)] [67, 68, 69, 70, 71, 72, 73, 74, 75, 76, 77, 78, 79, 80, 81, 82, 83, 84, 85] V V := agr.rf
  have zoZ : ZL Z Z := ZL.rf
  refine W.know (fun ka kb => ?_)
  refine W.tight (k := zcc Z - zcc Z) (n := zss Z - zss Z) (by (first | exact om_7244b830ee02 ka | omega)) (by (first | exact om_7244b830ee02 kb | omega)) ?_
  have r1 : 0 ≤ ((V 5 6)).toInt ∧ ((V 5 6)).toInt ≤ 400 := hMV 5 6
  have kdp := i_clamp (x := V 5 6) rfl (by (first | exact om_57b1f0478f4d gd dp9 | omega))
  have hdn : (gf : Int) + 1 ≤ (Z.nf : Int) := by (first | exact om_bb8713a56da6 hgf gd kdp | omega)
  have mup := MO.up mo
  have msz := mup.1
  have mbk := mup.2.2.2.1
  obtain ⟨xk, fk⟩ := MO.fk mo
  have r2 : (-1) ≤ ((V 71 gf)).toInt ∧ ((V 71 gf)).toInt ≤ 23 := hMV 71 gf
  have r3 : 0 ≤ ((V 75 gf)).toInt ∧ ((V 75 gf)).toInt ≤ 12 := hMV 75 gf
  have r4 : 0 ≤ ((V 80 gf)).toInt ∧ ((V 80 gf)).toInt ≤ 300 := hMV 80 gf
  have r5 : 0 ≤ ((V 84 gf)).toInt ∧ ((V 84 gf)).toInt ≤ 2147483647 := hMV 84 gf
  have r6 : 0 ≤ ((V 5 8)).toInt ∧ ((V 5 8)).toInt ≤ 300 := hMV 5 8
  have r7 : 0 ≤ ((V 5 9)).toInt ∧ ((V 5 9)).toInt ≤ 3 := hMV 5 9
  have r8 : 0 ≤ ((V 3 13)).toInt ∧ ((V 3 13)).toInt ≤ 300 := hMV 3 13
  have r9 : 0 ≤ ((V 43 (5 * b + 2))).toInt ∧ ((V 43 (5 * b + 2))).toInt ≤ ((xcap (5 * b + 2) : Nat) : Int) := hMV 43 (5 * b + 2)
  have r10 : xcap (5 * b + 2) = 24 := xcap_2
  have r11 : 0 ≤ ((V 41 b)).toInt ∧ ((V 41 b)).toInt ≤ 12 := hMV 41 b
  have r12 : 0 ≤ ((V 42 b)).toInt ∧ ((V 42 b)).toInt ≤ 8200 := hMV 42 b
  have fm := fk.2.2.2.2.2.2.1 (by (first | exact om_b66ba74381d5 gk | omega))
  have m1 : Int32.toInt (-1) = -1 := by decide
  have rw0 := rwq
  obtain ⟨⟨ow, rn⟩, rh, rd, tw9, rt9, rl⟩ := rw0
  replace rn : RWn V ow gB gm := rn
  replace rh : RWh V gm ga := rh
  have rd2 : (V 5 6).toInt = ((gr.length + 1 : Nat) : Int) := rd
  have gl9 : gr.length = gf := by (first | exact om_737fc00ff7e4 gd kdp rd rd2 | omega)
  have sl9 : gr.length ≤ 394 := by (first | exact om_590aac8d60d1 gd dp9 kdp rd rd2 | omega)
  have rh1 : (V 5 9).toInt = gm 0 6 := rh.1
  have rh8 : (V 5 8).toInt = gm 0 4 := rh.2.2.2.1
  have ra2 : (V 3 13).toInt = gm 0 2 := rn.1.1.2.2.1
  have rl0 := rl
  obtain ⟨t0, tl9, hf0, hbs9, hpl9, hlr⟩ := rl0
  rw [gl9] at hf0 hbs9
  have tz9 : tw9 = t0 := tl9
  obtain ⟨⟨k67, k68⟩, q69, q80, q81, q82, q83, z83⟩ := hf0
  refine lv_aload_n hx hb dX5_undoNext_0 rfl (lv_at hl 0 rfl) ?_
  refine va_get (D := D) (ci := 5) (v := .int (V 5 8)) (fs := (xfMachine ad V L Z)) (C := RX5) (T := TX5) (N := 15) hx hb hg inX5 hown hK hP 5 xgMachine rfl 8 (by decide) (hg _ w675) (fun _ h9 => h9) rfl dX5_undoNext_1 ?_
  refine lv_aload_n hx hb dX5_undoNext_4 rfl (lv_at hl 1 rfl) ?_
  refine va_getN (D := D) (ci := 4) (v := .int (V 80 gf)) (fs := (xfFrame V gf)) (C := RX4) (T := TX4) (N := 19) hx hb hg inX4 hown hK hP (336 + gf) (xgFrame hgf) rfl 13 (by decide) (hnw.use 1202 n1202 rfl) (fun _ h9 => h9) rfl dX5_undoNext_5 ?_
  refine lv_icmp_le (tgt := 39) hx hb dX5_undoNext_8 (by decide) (fun c13 => ?_) (fun c13 => ?_)
  · skip
    have f14 : ((V 5 8)).toInt ≤ ((V 80 gf)).toInt := b_le rfl rfl c13
    refine lv_aload_n hx hb dX5_undoNext_39 rfl (lv_at hl 0 rfl) ?_
    refine lv_aload_n hx hb dX5_undoNext_40 rfl (lv_at hl 1 rfl) ?_
    refine va_getN (D := D) (ci := 4) (v := .int (V 81 gf)) (fs := (xfFrame V gf)) (C := RX4) (T := TX4) (N := 19) hx hb hg inX4 hown hK hP (336 + gf) (xgFrame hgf) rfl 14 (by decide) (hnw.use 1203 n1203 rfl) (fun _ h9 => h9) rfl dX5_undoNext_41 ?_
    refine lv_aload_n hx hb dX5_undoNext_44 rfl (lv_at hl 1 rfl) ?_
    refine va_getN (D := D) (ci := 4) (v := .int (V 82 gf)) (fs := (xfFrame V gf)) (C := RX4) (T := TX4) (N := 19) hx hb hg inX4 hown hK hP (336 + gf) (xgFrame hgf) rfl 15 (by decide) (hnw.use 1204 n1204 rfl) (fun _ h9 => h9) rfl dX5_undoNext_45 ?_
    refine gA_void (gA_runV (As := [.int (V 81 gf), .int (V 82 gf)]) (rest := []) (ci := 5) (q0 := 5) hx hb hml hown hg hP hD hK hS hA hnw hgk (x_failWith9 l D ks H.size ad kk V L Z (V 81 gf) (V 82 gf) hMV ) w1261 w1263 w46 w171 w1264 rfl xgMachine hdV_yX5_failWith ⟨Nat.le_of_ble_eq_true rfl, Nat.le_of_ble_eq_true rfl⟩ rfl hl.1 rfl (Nat.le_of_ble_eq_true rfl) dX5_undoNext_48 ⟨z0, z0⟩) hP hD hK hS hA (fun u16 H locs w17 hP hD hK hS => ?_)
    obtain ⟨V20, L21⟩ := u16
    obtain ⟨hMV20, ajV20, axL21, t18, t19⟩ := w17
    have axL21 : L = L21 := Eq.symm axL21
    subst axL21
    replace hP : va_P D vwCl (xw ad kk V20 L Z) H := hP
    replace hD : va_D A (xw ad kk V20 L Z) := hD
    replace hMV20 : rgd bX V20 := hMV20
    replace ajV20 : agr [(5, 9), (5, 11), (5, 12)] [] V V20 := ajV20
    have agV20 : agr [(5, 6), (5, 8), (5, 9), (5, 11), (5, 12)] [67, 68, 69, 70, 71, 72, 73, 74, 75, 76, 77, 78, 79, 80, 81, 82, 83, 84, 85] V V20 := agV.tr ajV20 (by decide) (by decide)
    replace t18 : (V20 5 9).toInt = 2 := t18
    replace t19 : ((True) ∧ V20 = (up2 (up2 (up2 V 5 9 2) 5 11 (V 81 gf)) 5 12 (V 82 gf))) := t19
    have r22 : 0 ≤ ((V20 5 9)).toInt ∧ ((V20 5 9)).toInt ≤ 3 := hMV20 5 9
    have hw23 := t19.2
    obtain ⟨V24, hV24⟩ : ∃ z, z = up2 V 5 9 2 := ⟨_, rfl⟩
    obtain ⟨V25, hV25⟩ : ∃ z, z = up2 V24 5 11 (V 81 gf) := ⟨_, rfl⟩
    have hV20 : V20 = up2 V25 5 12 (V 82 gf) := by rw [hw23, hV25, hV24]
    refine lv_aload_n hx hb dX5_undoNext_51 rfl (lv_at hl 1 rfl) ?_
    refine va_getN (D := D) (ci := 4) (v := .int (V20 83 gf)) (fs := (xfFrame V20 gf)) (C := RX4) (T := TX4) (N := 19) hx hb hg inX4 hown hK hP (336 + gf) (xgFrame hgf) rfl 16 (by decide) (hnw.use 1205 n1205 rfl) (fun _ h9 => h9) rfl dX5_undoNext_52 ?_
    refine g_top (v := (V 83 gf)) ((up2_o hV20 (by decide)).trans ((up2_o hV25 (by decide)).trans (up2_o hV24 (by decide)))) ?_
    have r26 : 0 ≤ ((V 83 gf)).toInt ∧ ((V 83 gf)).toInt ≤ 1 := hMV 83 gf
    refine lv_if_eq (tgt := 63) hx hb dX5_undoNext_55 (by decide) (fun c27 => ?_) (fun c27 => ?_)
    · skip
      have f28 : ((V 83 gf)).toInt = 0 := b_eq rfl (by decide) c27
      refine lv_aload_n hx hb dX5_undoNext_63 rfl (lv_at hl 0 rfl) ?_
      have pq29 : (V20 5 6).toInt = ((V 5 6)).toInt := congrArg Int32.toInt ((up2_k hV20 (by decide)).trans ((up2_k hV25 (by decide)).trans (up2_k hV24 (by decide))))
      refine gA_void (gA_runV (As := []) (rest := []) (ci := 5) (q0 := 5) hx hb hml hown hg hP hD hK hS hA hnw hgk (x_leave9 l D ks H.size ad kk V20 L Z  hMV20 (show 1 ≤ (V20 5 6).toInt from by (first | exact om_a99773d108c9 gd dp9 kdp rd rd2 pq29 | omega))) w1308 w1310 w50 w171 w1311 rfl xgMachine hdV_yX5_leave ⟨Nat.le_of_ble_eq_true rfl, Nat.le_of_ble_eq_true rfl⟩ rfl hl.1 rfl (Nat.le_of_ble_eq_true rfl) dX5_undoNext_64 ⟨z0, z0⟩) hP hD hK hS hA (fun u31 H locs w32 hP hD hK hS => ?_)
      obtain ⟨V35, L36⟩ := u31
      obtain ⟨hMV35, ajV35, axL36, t33, t34⟩ := w32
      have axL36 : L = L36 := Eq.symm axL36
      subst axL36
      replace hP : va_P D vwCl (xw ad kk V35 L Z) H := hP
      replace hD : va_D A (xw ad kk V35 L Z) := hD
      replace hMV35 : rgd bX V35 := hMV35
      replace ajV35 : agr [(5, 6)] [] V20 V35 := ajV35
      have agV35 : agr [(5, 6), (5, 8), (5, 9), (5, 11), (5, 12)] [67, 68, 69, 70, 71, 72, 73, 74, 75, 76, 77, 78, 79, 80, 81, 82, 83, 84, 85] V V35 := agV20.tr ajV35 (by decide) (by decide)
      replace t33 : (V35 5 6).toInt = (V20 5 6).toInt - 1 := t33
      replace t34 : ((True) ∧ V35 = (up2 V20 5 6 (V20 5 6 - 1))) := t34
      have r37 : 0 ≤ ((V35 5 6)).toInt ∧ ((V35 5 6)).toInt ≤ 400 := hMV35 5 6
      have hw38 := t34.2
      obtain ⟨z39, ez39⟩ : ∃ y : Int32, y = V20 5 6 - 1 := ⟨_, rfl⟩
      have hz39 : z39.toInt = (V20 5 6).toInt - 1 := i_sub ez39 rfl (by decide) (by (first | exact om_95a033aee8da gd dp9 kdp rd rd2 pq29 t33 | omega))
      have hV35 : V35 = up2 V20 5 6 z39 := by rw [hw38, ez39]
      have me40 : ME V V35 gf := (ME.up (ME.up (ME.up (ME.up ME.rf hV24 (Or.inr (by (first | exact om_620f5006bfaa  | omega)))) hV25 (Or.inr (by (first | exact om_ded18bf8e7e5  | omega)))) hV20 (Or.inr (by (first | exact om_82aabbaa6769  | omega)))) hV35 (Or.inr (by (first | exact om_f481bd0f1cda  | omega))))
      have pq41 : (V35 67 gf).toInt = ((V 67 gf)).toInt := congrArg Int32.toInt ((up2_o hV35 (by decide)).trans ((up2_o hV20 (by decide)).trans ((up2_o hV25 (by decide)).trans (up2_o hV24 (by decide)))))
      have pq42 : (V35 68 gf).toInt = ((V 68 gf)).toInt := congrArg Int32.toInt ((up2_o hV35 (by decide)).trans ((up2_o hV20 (by decide)).trans ((up2_o hV25 (by decide)).trans (up2_o hV24 (by decide)))))
      have pq43 : (V35 70 gf).toInt = ((V 70 gf)).toInt := congrArg Int32.toInt ((up2_o hV35 (by decide)).trans ((up2_o hV20 (by decide)).trans ((up2_o hV25 (by decide)).trans (up2_o hV24 (by decide)))))
      have pq44 : (V35 71 gf).toInt = ((V 71 gf)).toInt := congrArg Int32.toInt ((up2_o hV35 (by decide)).trans ((up2_o hV20 (by decide)).trans ((up2_o hV25 (by decide)).trans (up2_o hV24 (by decide)))))
      have pq45 : (V35 75 gf).toInt = ((V 75 gf)).toInt := congrArg Int32.toInt ((up2_o hV35 (by decide)).trans ((up2_o hV20 (by decide)).trans ((up2_o hV25 (by decide)).trans (up2_o hV24 (by decide)))))
      have pq46 : (V35 76 gf).toInt = ((V 76 gf)).toInt := congrArg Int32.toInt ((up2_o hV35 (by decide)).trans ((up2_o hV20 (by decide)).trans ((up2_o hV25 (by decide)).trans (up2_o hV24 (by decide)))))
      have pq47 : (V35 80 gf).toInt = ((V 80 gf)).toInt := congrArg Int32.toInt ((up2_o hV35 (by decide)).trans ((up2_o hV20 (by decide)).trans ((up2_o hV25 (by decide)).trans (up2_o hV24 (by decide)))))
      have pq48 : (V35 84 gf).toInt = ((V 84 gf)).toInt := congrArg Int32.toInt ((up2_o hV35 (by decide)).trans ((up2_o hV20 (by decide)).trans ((up2_o hV25 (by decide)).trans (up2_o hV24 (by decide)))))
      have pq49 : (V35 5 6).toInt = z39.toInt := congrArg Int32.toInt (up2_s hV35)
      have pq50 : (V35 5 8).toInt = ((V 5 8)).toInt := congrArg Int32.toInt ((up2_k hV35 (by decide)).trans ((up2_k hV20 (by decide)).trans ((up2_k hV25 (by decide)).trans (up2_k hV24 (by decide)))))
      have pq51 : (V35 5 9).toInt = 2 := (congrArg Int32.toInt ((up2_k hV35 (by decide)).trans ((up2_k hV20 (by decide)).trans ((up2_k hV25 (by decide)).trans (up2_s hV24))))).trans (by decide)
      have pq52 : (V35 3 13).toInt = ((V 3 13)).toInt := congrArg Int32.toInt ((up2_o hV35 (by decide)).trans ((up2_o hV20 (by decide)).trans ((up2_o hV25 (by decide)).trans (up2_o hV24 (by decide)))))
      have pq53 : (V35 43 (5 * b + 2)).toInt = ((V 43 (5 * b + 2))).toInt := congrArg Int32.toInt ((up2_o hV35 (by decide)).trans ((up2_o hV20 (by decide)).trans ((up2_o hV25 (by decide)).trans (up2_o hV24 (by decide)))))
      have pq54 : (V35 42 b).toInt = ((V 42 b)).toInt := congrArg Int32.toInt ((up2_o hV35 (by decide)).trans ((up2_o hV20 (by decide)).trans ((up2_o hV25 (by decide)).trans (up2_o hV24 (by decide)))))
      have pq55 : (V35 41 b).toInt = ((V 41 b)).toInt := congrArg Int32.toInt ((up2_o hV35 (by decide)).trans ((up2_o hV20 (by decide)).trans ((up2_o hV25 (by decide)).trans (up2_o hV24 (by decide)))))
      have rp56 : MJ V35 Z b := MP.lv (MO.mp mo) me40 (by (first | exact om_0e41a66fda65 gd kdp rd rd2 pq29 t33 | omega)) (fun z => absurd z.1 (by (first | exact om_43d8e2139c68 pq51 | omega)))
      have pq57 : (V35 5 11).toInt = ((V 81 gf)).toInt := congrArg Int32.toInt ((up2_k hV35 (by decide)).trans ((up2_k hV20 (by decide)).trans (up2_s hV25)))
      have pq58 : (V35 5 12).toInt = ((V 82 gf)).toInt := congrArg Int32.toInt ((up2_k hV35 (by decide)).trans (up2_s hV20))
      have me59 : ME V V35 gf := (ME.up (ME.up (ME.up (ME.up ME.rf hV24 (Or.inr (by (first | exact om_620f5006bfaa  | omega)))) hV25 (Or.inr (by (first | exact om_ded18bf8e7e5  | omega)))) hV20 (Or.inr (by (first | exact om_82aabbaa6769  | omega)))) hV35 (Or.inr (by (first | exact om_f481bd0f1cda  | omega))))
      have rl60 : RWl V35 gB gr t0 := RWl.mv hlr (fun i9 hi9 c9 h1 h2 => me59.2.1 c9 i9 h1 h2 (by (first | exact om_102b9d22baee gd kdp rd rd2 pq29 t33 hz39 hi9 | omega))) (fun j9 hj9 => ((up2_o hV35 (by decide)).trans ((up2_o hV20 (by decide)).trans ((up2_o hV25 (by decide)).trans (up2_o hV24 (by decide)))))) (by rw [((up2_o hV35 (by decide)).trans ((up2_o hV20 (by decide)).trans ((up2_o hV25 (by decide)).trans (up2_o hV24 (by decide)))))]; exact Int.le_refl _) ((up2_o hV35 (by decide)).trans ((up2_o hV20 (by decide)).trans ((up2_o hV25 (by decide)).trans (up2_o hV24 (by decide)))))
      have pq61 : (V35 5 7).toInt = ((V 5 7)).toInt := congrArg Int32.toInt ((up2_k hV35 (by decide)).trans ((up2_k hV20 (by decide)).trans ((up2_k hV25 (by decide)).trans (up2_k hV24 (by decide)))))
      have r62 : 0 ≤ ((V 5 7)).toInt ∧ ((V 5 7)).toInt ≤ 2048 := hMV 5 7
      have rz9 : RW V35 gB (mU (mU (mU gm 0 6 2) 0 8 gnd) 0 9 gfl, ga, gr) := RW.fl rwq (ESw.ag (show agr [(5, 6), (5, 9), (5, 11), (5, 12)] [] V V35 from (agr.up (agr.up (agr.up (agr.up agr.rf hV24 rfl) hV25 rfl) hV20 rfl) hV35 rfl)) (by decide)) (by (first | exact om_6aa5e6f8c558 pq51 | omega)) (by (first | exact om_cd7d0a6a31bc q81 pq57 | omega)) (by (first | exact om_cd7d0a6a31bc q82 pq58 | omega)) (show (V35 5 6).toInt = ((gr.length : Nat) : Int) from by (first | exact om_0893762427d8 kdp rd rd2 pq29 t33 | omega)) (show (V35 5 7).toInt = ((t0 : Nat) : Int) from by rw [((up2_k hV35 (by decide)).trans ((up2_k hV20 (by decide)).trans ((up2_k hV25 (by decide)).trans (up2_k hV24 (by decide))))), rt9, tz9]) rl60
      have rx63 : RW V35 gB (undoM gm ga gr glv gmk gnd gfl gsp) := by rw [un_f (show ¬ gmk < gm 0 4 from by (first | exact om_9b09b50f5cdc fm rh8 q80 f14 | omega)) (by (first | exact om_45710a386d34 q83 f28 | omega))]; exact rz9
      refine W.know (fun kr1 kr2 => ?_)
      refine W.widen (k := zcc Z) (n := zss Z) (Nat.sub_le _ _) (Nat.sub_le _ _) ?_
      exact W.vret hx hb hr (fun t ht hW => ⟨⟨(V35, L, Z), rfl, ⟨hMV35, agV35, rfl, zoZ, rp56, rx63⟩, ⟨by rw [ht]; exact hP, va_K.moved hW.alike hK, hD⟩, by rw [ht]; exact kr1, by rw [ht]; exact kr2⟩, hS.F ht⟩) hS.2.2 dX5_undoNext_67
    · skip
      have f64 : ((V 83 gf)).toInt ≠ 0 := b_neq rfl (by decide) c27
      refine lv_aload_n hx hb dX5_undoNext_58 rfl (lv_at hl 0 rfl) ?_
      refine lv_iconst (v := 3) hx hb dX5_undoNext_59 (by decide) ?_
      refine va_put (D := D) (ci := 5) (v := .int 3) (ty := tyX5 9) (fs := (xfMachine ad V20 L Z)) (C := RX5) (T := TX5) (N := 15) hx hb hg inX5 tyX5 tyX5_ok nmX5 hown hK hP hD hS 5 xgMachine rfl 9 (by decide) (hg _ w676) (fun _ h9 => h9) rfl (tyX5_ok 9 (by decide)) rfl rfl (Nat.le_of_ble_eq_true rfl) dX5_undoNext_60 (fun H locs hP hD hS => ?_)
      obtain ⟨V65, hV65⟩ : ∃ z, z = up2 V20 5 9 3 := ⟨_, rfl⟩
      have ew66 : (xw ad kk V20 L Z).set 5 ((ad 5), .inr (5, (xfMachine ad V20 L Z).set 9 (.int 3))) = xw ad kk V65 L Z := by rw [hV65]; exact xw_ss (by decide) rfl (xb_si (by decide))
      have hP : va_P D vwCl (xw ad kk V65 L Z) H := by rw [← ew66]; exact hP
      have hD : va_D A (xw ad kk V65 L Z) := by rw [← ew66]; exact hD
      have hMV65 : rgd bX V65 := hMV20.put hV65 (by decide)
      have agV65 : agr [(5, 6), (5, 8), (5, 9), (5, 11), (5, 12)] [67, 68, 69, 70, 71, 72, 73, 74, 75, 76, 77, 78, 79, 80, 81, 82, 83, 84, 85] V V65 := agV20.up hV65 rfl
      refine lv_aload_n hx hb dX5_undoNext_63 rfl (lv_at hl 0 rfl) ?_
      have pq67 : (V65 5 6).toInt = ((V 5 6)).toInt := congrArg Int32.toInt ((up2_k hV65 (by decide)).trans ((up2_k hV20 (by decide)).trans ((up2_k hV25 (by decide)).trans (up2_k hV24 (by decide)))))
      refine gA_void (gA_runV (As := []) (rest := []) (ci := 5) (q0 := 5) hx hb hml hown hg hP hD hK hS hA hnw hgk (x_leave9 l D ks H.size ad kk V65 L Z  hMV65 (show 1 ≤ (V65 5 6).toInt from by (first | exact om_a99773d108c9 gd dp9 kdp rd rd2 pq67 | omega))) w1308 w1310 w50 w171 w1311 rfl xgMachine hdV_yX5_leave ⟨Nat.le_of_ble_eq_true rfl, Nat.le_of_ble_eq_true rfl⟩ rfl hl.1 rfl (Nat.le_of_ble_eq_true rfl) dX5_undoNext_64 ⟨z0, z0⟩) hP hD hK hS hA (fun u69 H locs w70 hP hD hK hS => ?_)
      obtain ⟨V73, L74⟩ := u69
      obtain ⟨hMV73, ajV73, axL74, t71, t72⟩ := w70
      have axL74 : L = L74 := Eq.symm axL74
      subst axL74
      replace hP : va_P D vwCl (xw ad kk V73 L Z) H := hP
      replace hD : va_D A (xw ad kk V73 L Z) := hD
      replace hMV73 : rgd bX V73 := hMV73
      replace ajV73 : agr [(5, 6)] [] V65 V73 := ajV73
      have agV73 : agr [(5, 6), (5, 8), (5, 9), (5, 11), (5, 12)] [67, 68, 69, 70, 71, 72, 73, 74, 75, 76, 77, 78, 79, 80, 81, 82, 83, 84, 85] V V73 := agV65.tr ajV73 (by decide) (by decide)
      replace t71 : (V73 5 6).toInt = (V65 5 6).toInt - 1 := t71
      replace t72 : ((True) ∧ V73 = (up2 V65 5 6 (V65 5 6 - 1))) := t72
      have r75 : 0 ≤ ((V73 5 6)).toInt ∧ ((V73 5 6)).toInt ≤ 400 := hMV73 5 6
      have hw76 := t72.2
      obtain ⟨z77, ez77⟩ : ∃ y : Int32, y = V65 5 6 - 1 := ⟨_, rfl⟩
      have hz77 : z77.toInt = (V65 5 6).toInt - 1 := i_sub ez77 rfl (by decide) (by (first | exact om_95a033aee8da gd dp9 kdp rd rd2 pq67 t71 | omega))
      have hV73 : V73 = up2 V65 5 6 z77 := by rw [hw76, ez77]
      have me78 : ME V V73 gf := (ME.up (ME.up (ME.up (ME.up (ME.up ME.rf hV24 (Or.inr (by (first | exact om_620f5006bfaa  | omega)))) hV25 (Or.inr (by (first | exact om_ded18bf8e7e5  | omega)))) hV20 (Or.inr (by (first | exact om_82aabbaa6769  | omega)))) hV65 (Or.inr (by (first | exact om_620f5006bfaa  | omega)))) hV73 (Or.inr (by (first | exact om_f481bd0f1cda  | omega))))
      have pq79 : (V73 67 gf).toInt = ((V 67 gf)).toInt := congrArg Int32.toInt ((up2_o hV73 (by decide)).trans ((up2_o hV65 (by decide)).trans ((up2_o hV20 (by decide)).trans ((up2_o hV25 (by decide)).trans (up2_o hV24 (by decide))))))
      have pq80 : (V73 68 gf).toInt = ((V 68 gf)).toInt := congrArg Int32.toInt ((up2_o hV73 (by decide)).trans ((up2_o hV65 (by decide)).trans ((up2_o hV20 (by decide)).trans ((up2_o hV25 (by decide)).trans (up2_o hV24 (by decide))))))
      have pq81 : (V73 70 gf).toInt = ((V 70 gf)).toInt := congrArg Int32.toInt ((up2_o hV73 (by decide)).trans ((up2_o hV65 (by decide)).trans ((up2_o hV20 (by decide)).trans ((up2_o hV25 (by decide)).trans (up2_o hV24 (by decide))))))
      have pq82 : (V73 71 gf).toInt = ((V 71 gf)).toInt := congrArg Int32.toInt ((up2_o hV73 (by decide)).trans ((up2_o hV65 (by decide)).trans ((up2_o hV20 (by decide)).trans ((up2_o hV25 (by decide)).trans (up2_o hV24 (by decide))))))
      have pq83 : (V73 75 gf).toInt = ((V 75 gf)).toInt := congrArg Int32.toInt ((up2_o hV73 (by decide)).trans ((up2_o hV65 (by decide)).trans ((up2_o hV20 (by decide)).trans ((up2_o hV25 (by decide)).trans (up2_o hV24 (by decide))))))
      have pq84 : (V73 76 gf).toInt = ((V 76 gf)).toInt := congrArg Int32.toInt ((up2_o hV73 (by decide)).trans ((up2_o hV65 (by decide)).trans ((up2_o hV20 (by decide)).trans ((up2_o hV25 (by decide)).trans (up2_o hV24 (by decide))))))
      have pq85 : (V73 80 gf).toInt = ((V 80 gf)).toInt := congrArg Int32.toInt ((up2_o hV73 (by decide)).trans ((up2_o hV65 (by decide)).trans ((up2_o hV20 (by decide)).trans ((up2_o hV25 (by decide)).trans (up2_o hV24 (by decide))))))
      have pq86 : (V73 84 gf).toInt = ((V 84 gf)).toInt := congrArg Int32.toInt ((up2_o hV73 (by decide)).trans ((up2_o hV65 (by decide)).trans ((up2_o hV20 (by decide)).trans ((up2_o hV25 (by decide)).trans (up2_o hV24 (by decide))))))
      have pq87 : (V73 5 6).toInt = z77.toInt := congrArg Int32.toInt (up2_s hV73)
      have pq88 : (V73 5 8).toInt = ((V 5 8)).toInt := congrArg Int32.toInt ((up2_k hV73 (by decide)).trans ((up2_k hV65 (by decide)).trans ((up2_k hV20 (by decide)).trans ((up2_k hV25 (by decide)).trans (up2_k hV24 (by decide))))))
      have pq89 : (V73 5 9).toInt = 3 := (congrArg Int32.toInt ((up2_k hV73 (by decide)).trans (up2_s hV65))).trans (by decide)
      have pq90 : (V73 3 13).toInt = ((V 3 13)).toInt := congrArg Int32.toInt ((up2_o hV73 (by decide)).trans ((up2_o hV65 (by decide)).trans ((up2_o hV20 (by decide)).trans ((up2_o hV25 (by decide)).trans (up2_o hV24 (by decide))))))
      have pq91 : (V73 43 (5 * b + 2)).toInt = ((V 43 (5 * b + 2))).toInt := congrArg Int32.toInt ((up2_o hV73 (by decide)).trans ((up2_o hV65 (by decide)).trans ((up2_o hV20 (by decide)).trans ((up2_o hV25 (by decide)).trans (up2_o hV24 (by decide))))))
      have pq92 : (V73 42 b).toInt = ((V 42 b)).toInt := congrArg Int32.toInt ((up2_o hV73 (by decide)).trans ((up2_o hV65 (by decide)).trans ((up2_o hV20 (by decide)).trans ((up2_o hV25 (by decide)).trans (up2_o hV24 (by decide))))))
      have pq93 : (V73 41 b).toInt = ((V 41 b)).toInt := congrArg Int32.toInt ((up2_o hV73 (by decide)).trans ((up2_o hV65 (by decide)).trans ((up2_o hV20 (by decide)).trans ((up2_o hV25 (by decide)).trans (up2_o hV24 (by decide))))))
      have rp94 : MJ V73 Z b := MP.lv (MO.mp mo) me78 (by (first | exact om_0e41a66fda65 gd kdp rd rd2 pq67 t71 | omega)) (fun z => absurd z.1 (by (first | exact om_a3a9ae5c6b89 pq89 | omega)))
      have pq95 : (V73 5 11).toInt = ((V 81 gf)).toInt := congrArg Int32.toInt ((up2_k hV73 (by decide)).trans ((up2_k hV65 (by decide)).trans ((up2_k hV20 (by decide)).trans (up2_s hV25))))
      have pq96 : (V73 5 12).toInt = ((V 82 gf)).toInt := congrArg Int32.toInt ((up2_k hV73 (by decide)).trans ((up2_k hV65 (by decide)).trans (up2_s hV20)))
      have me97 : ME V V73 gf := (ME.up (ME.up (ME.up (ME.up (ME.up ME.rf hV24 (Or.inr (by (first | exact om_620f5006bfaa  | omega)))) hV25 (Or.inr (by (first | exact om_ded18bf8e7e5  | omega)))) hV20 (Or.inr (by (first | exact om_82aabbaa6769  | omega)))) hV65 (Or.inr (by (first | exact om_620f5006bfaa  | omega)))) hV73 (Or.inr (by (first | exact om_f481bd0f1cda  | omega))))
      have rl98 : RWl V73 gB gr t0 := RWl.mv hlr (fun i9 hi9 c9 h1 h2 => me97.2.1 c9 i9 h1 h2 (by (first | exact om_102b9d22baee gd kdp rd rd2 pq67 t71 hz77 hi9 | omega))) (fun j9 hj9 => ((up2_o hV73 (by decide)).trans ((up2_o hV65 (by decide)).trans ((up2_o hV20 (by decide)).trans ((up2_o hV25 (by decide)).trans (up2_o hV24 (by decide))))))) (by rw [((up2_o hV73 (by decide)).trans ((up2_o hV65 (by decide)).trans ((up2_o hV20 (by decide)).trans ((up2_o hV25 (by decide)).trans (up2_o hV24 (by decide))))))]; exact Int.le_refl _) ((up2_o hV73 (by decide)).trans ((up2_o hV65 (by decide)).trans ((up2_o hV20 (by decide)).trans ((up2_o hV25 (by decide)).trans (up2_o hV24 (by decide))))))
      have pq99 : (V73 5 7).toInt = ((V 5 7)).toInt := congrArg Int32.toInt ((up2_k hV73 (by decide)).trans ((up2_k hV65 (by decide)).trans ((up2_k hV20 (by decide)).trans ((up2_k hV25 (by decide)).trans (up2_k hV24 (by decide))))))
      have r100 : 0 ≤ ((V 5 7)).toInt ∧ ((V 5 7)).toInt ≤ 2048 := hMV 5 7
      have es9 : ESw V V73 := (ESw.ag (show agr [(5, 6), (5, 9), (5, 11), (5, 12)] [] V V73 from (agr.up (agr.up (agr.up (agr.up (agr.up agr.rf hV24 rfl) hV25 rfl) hV20 rfl) hV65 rfl) hV73 rfl)) (by decide))
      have rn6 : RWn V73 ow gB (mU (mU (mU gm 0 8 gnd) 0 9 gfl) 0 6 3) := RWn.mv rn (fun j9 hj9 => by rw [mU_o _ _ (by (first | exact om_5f854a31b9e1 hj9 | omega)), mU_o _ _ (by (first | exact om_3244b4774453 hj9 | omega)), mU_o _ _ (by (first | exact om_04f96242676c hj9 | omega))]) (fun x9 j9 hx9 _ => by rw [mU_o _ _ (by omega), mU_o _ _ (by omega), mU_o _ _ (by omega)]) es9.1 es9.2.1 es9.2.2.1.1 es9.2.2.1.2.1 es9.2.2.2.1
      have rz9 : RW V73 gB ((mU (mU (mU gm 0 8 gnd) 0 9 gfl) 0 6 3), ga, gr) := RW.fin rwq rn6 (by rw [mU_o _ _ (by (first | exact om_39a4284f0f43  | omega)), mU_o _ _ (by (first | exact om_965df8735bf4  | omega)), mU_o _ _ (by (first | exact om_a6480dcc7cd0  | omega))]) (fun i9 => by rw [mU_o _ _ (by (first | exact om_196732db1e90  | omega)), mU_o _ _ (by (first | exact om_c5339335ca3d  | omega)), mU_o _ _ (by (first | exact om_b07bdf6620fe  | omega))]) ((up2_k hV73 (by decide)).trans ((up2_k hV65 (by decide)).trans ((up2_k hV20 (by decide)).trans ((up2_k hV25 (by decide)).trans (up2_k hV24 (by decide)))))) (fun i9 => ((up2_o hV73 (by decide)).trans ((up2_o hV65 (by decide)).trans ((up2_o hV20 (by decide)).trans ((up2_o hV25 (by decide)).trans (up2_o hV24 (by decide))))))) (by rw [mU_s]; (first | exact om_395e3da5ee0d pq89 | omega)) (fun h9 => by rw [mU_s] at h9; exact absurd h9 (by decide)) (fun h9 => by rw [mU_s] at h9; exact absurd h9 (by decide)) (show (V73 5 6).toInt = ((gr.length : Nat) : Int) from by (first | exact om_0893762427d8 kdp rd rd2 pq67 t71 | omega)) (show (V73 5 7).toInt = ((t0 : Nat) : Int) from by rw [((up2_k hV73 (by decide)).trans ((up2_k hV65 (by decide)).trans ((up2_k hV20 (by decide)).trans ((up2_k hV25 (by decide)).trans (up2_k hV24 (by decide)))))), rt9, tz9]) rl98
      have rx101 : RW V73 gB (undoM gm ga gr glv gmk gnd gfl gsp) := by rw [un_s (show ¬ gmk < gm 0 4 from by (first | exact om_9b09b50f5cdc fm rh8 q80 f14 | omega)) (by (first | exact om_901802a23462 q83 f64 | omega))]; exact rz9
      refine W.know (fun kr1 kr2 => ?_)
      refine W.widen (k := zcc Z) (n := zss Z) (Nat.sub_le _ _) (Nat.sub_le _ _) ?_
      exact W.vret hx hb hr (fun t ht hW => ⟨⟨(V73, L, Z), rfl, ⟨hMV73, agV73, rfl, zoZ, rp94, rx101⟩, ⟨by rw [ht]; exact hP, va_K.moved hW.alike hK, hD⟩, by rw [ht]; exact kr1, by rw [ht]; exact kr2⟩, hS.F ht⟩) hS.2.2 dX5_undoNext_67
  · skip
    have f102 : ((V 80 gf)).toInt < ((V 5 8)).toInt := b_nle rfl rfl c13
    refine lv_aload_n hx hb dX5_undoNext_11 rfl (lv_at hl 0 rfl) ?_
    refine lv_dup hx hb dX5_undoNext_12 rfl ?_
    refine va_get (D := D) (ci := 5) (v := .int (V 5 8)) (fs := (xfMachine ad V L Z)) (C := RX5) (T := TX5) (N := 15) hx hb hg inX5 hown hK hP 5 xgMachine rfl 8 (by decide) (hg _ w675) (fun _ h9 => h9) rfl dX5_undoNext_13 ?_
    refine lv_iconst (v := 1) hx hb dX5_undoNext_16 (by decide) ?_
    refine lv_isub hx hb dX5_undoNext_17 ?_
    refine lv_topi (fun z103 ez103 => ?_)
    have hz103 : z103.toInt = ((V 5 8)).toInt - 1 := i_sub ez103 rfl (by decide) (by (first | exact om_f17c19303a9d r6 rh8 | omega))
    refine va_put (D := D) (ci := 5) (v := .int z103) (ty := tyX5 8) (fs := (xfMachine ad V L Z)) (C := RX5) (T := TX5) (N := 15) hx hb hg inX5 tyX5 tyX5_ok nmX5 hown hK hP hD hS 5 xgMachine rfl 8 (by decide) (hg _ w675) (fun _ h9 => h9) rfl (tyX5_ok 8 (by decide)) rfl rfl (Nat.le_of_ble_eq_true rfl) dX5_undoNext_18 (fun H locs hP hD hS => ?_)
    obtain ⟨V104, hV104⟩ : ∃ z, z = up2 V 5 8 z103 := ⟨_, rfl⟩
    have ew105 : (xw ad kk V L Z).set 5 ((ad 5), .inr (5, (xfMachine ad V L Z).set 8 (.int z103))) = xw ad kk V104 L Z := by rw [hV104]; exact xw_ss (by decide) rfl (xb_si (by decide))
    have hP : va_P D vwCl (xw ad kk V104 L Z) H := by rw [← ew105]; exact hP
    have hD : va_D A (xw ad kk V104 L Z) := by rw [← ew105]; exact hD
    have hMV104 : rgd bX V104 := hMV.put hV104 (show 0 ≤ z103.toInt ∧ z103.toInt ≤ 300 from by (first | exact om_c5f9ac985d8d r4 r6 rh8 q80 f102 hz103 | omega))
    have agV104 : agr [(5, 6), (5, 8), (5, 9), (5, 11), (5, 12)] [67, 68, 69, 70, 71, 72, 73, 74, 75, 76, 77, 78, 79, 80, 81, 82, 83, 84, 85] V V104 := agV.up hV104 rfl
    have mo1 : MO V104 Z b gf True True True := MO.mcnt mo (by (first | exact om_b66ba74381d5 gk | omega)) hV104 (by (first | exact om_22a89f6cd335 rh8 q80 f102 hz103 | omega)) (by (first | exact om_00384d34a5be rh8 hz103 | omega)) (by (first | exact om_933a12d05478 r4 r6 rh8 q80 f102 hz103 | omega)) (fun _ => Or.inr (by (first | exact om_da42dea12100 rh8 hz103 | omega)))
    refine lv_aload_n hx hb dX5_undoNext_21 rfl (lv_at hl 0 rfl) ?_
    refine lv_aload_n hx hb dX5_undoNext_22 rfl (lv_at hl 0 rfl) ?_
    refine va_get (D := D) (ci := 5) (v := .ref (ad 37)) (fs := (xfMachine ad V104 L Z)) (C := RX5) (T := TX5) (N := 15) hx hb hg inX5 hown hK hP 5 xgMachine rfl 4 (by decide) (hg _ w671) (fun _ h9 => h9) rfl dX5_undoNext_23 ?_
    refine lv_aload_n hx hb dX5_undoNext_26 rfl (lv_at hl 0 rfl) ?_
    refine va_get (D := D) (ci := 5) (v := .int (V104 5 8)) (fs := (xfMachine ad V104 L Z)) (C := RX5) (T := TX5) (N := 15) hx hb hg inX5 hown hK hP 5 xgMachine rfl 8 (by decide) (hg _ w675) (fun _ h9 => h9) rfl dX5_undoNext_27 ?_
    refine g_top (v := z103) (up2_s hV104) ?_
    refine va_iald (D := D) (i := z103) hx hb hK hP 37 30 rfl rfl (i_in (a := z103.toInt) rfl (by (first | exact om_3749c050644e r4 r6 rh8 q80 f102 hz103 | omega))) dX5_undoNext_30 ?_
    refine g_top (v := (V 40 (Int32.toNatClampNeg z103))) (up2_o hV104 (by decide)) ?_
    have r106 : 0 ≤ ((V 40 (Int32.toNatClampNeg z103))).toInt ∧ ((V 40 (Int32.toNatClampNeg z103))).toInt ≤ 299 := hMV 40 (Int32.toNatClampNeg z103)
    have kcm := i_clamp (x := z103) rfl (by (first | exact om_933a12d05478 r4 r6 rh8 q80 f102 hz103 | omega))
    have hmd := mup.2.2.2.2.2.2.1 (Int32.toNatClampNeg z103) (by (first | exact om_8cf67c8646a5 rh8 hz103 kcm | omega))
    refine lv_aload_n hx hb dX5_undoNext_31 rfl (lv_at hl 1 rfl) ?_
    refine va_getN (D := D) (ci := 4) (v := .int (V104 69 gf)) (fs := (xfFrame V104 gf)) (C := RX4) (T := TX4) (N := 19) hx hb hg inX4 hown hK hP (336 + gf) (xgFrame hgf) rfl 2 (by decide) (hnw.use 1191 n1191 rfl) (fun _ h9 => h9) rfl dX5_undoNext_32 ?_
    refine g_top (v := (V 69 gf)) (up2_o hV104 (by decide)) ?_
    have pq107 : (V104 3 13).toInt = ((V 3 13)).toInt := congrArg Int32.toInt (up2_o hV104 (by decide))
    have pq109 : (V104 5 6).toInt = ((V 5 6)).toInt := congrArg Int32.toInt (up2_k hV104 (by decide))
    have mt108 : MT V104 Z b := MO.mt mo1 (by (first | exact om_6f738fa1827e hgf gd kdp rd rd2 pq109 | omega)) (by (first | exact om_78ea3e5e24cc gd kdp rd rd2 pq109 | omega))
    refine W.know (fun k111 k112 => ?_)
    obtain ⟨Hk110, hHk110⟩ : ∃ z, z = H := ⟨_, rfl⟩
    have k111 : Hk110.size ≤ s.heap.size + (zcc Z - zcc Z) := by rw [hHk110]; exact k111
    have k112 : tot Hk110 ≤ tot s.heap + (zss Z - zss Z) := by rw [hHk110]; exact k112
    refine gZ_void (gA_runV (As := [.int (V 40 (Int32.toNatClampNeg z103)), .int (V 69 gf)]) (rest := []) (ci := 5) (q0 := 5) hx hb hml hown hg hP hD hK hS hA hnw hgk (x_pushClose9 l D ks H.size ad kk V104 L Z (V 40 (Int32.toNatClampNeg z103)) (V 69 gf) (b) hMV104 (by (first | exact om_b0fab033451e r106 | omega)) (show b < 2 from by (first | exact om_289974d36c9f hb2 mup | omega)) mt108 (show ((V 40 (Int32.toNatClampNeg z103))).toInt < (V104 3 13).toInt from by (first | exact om_17757a99b411 ra2 hmd pq107 | omega))) w1320 w1321 w1322 w171 w1323 rfl xgMachine hdV_yX5_pushClose ⟨Nat.le_of_ble_eq_true rfl, Nat.le_of_ble_eq_true rfl⟩ rfl hl.1 rfl (Nat.le_of_ble_eq_true rfl) dX5_undoNext_35 ⟨z1 zoZ.1, z1 zoZ.2.1⟩) hD hS hA (fun u114 H locs w115 hP hD hK hS y116 y117 => ?_)
    obtain ⟨V118, L119, Z120⟩ := u114
    obtain ⟨hMV118, ajV118, axL119, zlZ120, t122, t123⟩ := w115
    have axL119 : L = L119 := Eq.symm axL119
    subst axL119
    replace hP : va_P D vwCl (xw ad kk V118 L Z120) H := hP
    replace hD : va_D A (xw ad kk V118 L Z120) := hD
    replace hK : va_K D vwCl (xty kk Z120) s := hK
    replace hMV118 : rgd bX V118 := hMV118
    replace ajV118 : agr [(5, 6), (5, 9)] [67, 68, 69, 70, 71, 72, 73, 74, 75, 76, 77, 78, 79, 80, 81, 82, 83, 84, 85] V104 V118 := ajV118
    have agV118 : agr [(5, 6), (5, 8), (5, 9), (5, 11), (5, 12)] [67, 68, 69, 70, 71, 72, 73, 74, 75, 76, 77, 78, 79, 80, 81, 82, 83, 84, 85] V V118 := agV104.tr ajV118 (by decide) (by decide)
    replace zlZ120 : ZL Z Z120 := zlZ120
    have zoZ120 : ZL Z Z120 := ZL.tr zoZ zlZ120
    have ziZ120 := zlZ120.1
    have zjZ120 := zlZ120.2.1
    have zkZ120 := zlZ120.2.2.1
    have zmZ120 := zoZ120.1
    have znZ120 := zoZ120.2.1
    have zpZ_Z120 := zoZ.1
    have zqZ_Z120 := zoZ.2.1
    have y116 : H.size ≤ Hk110.size + (zcc Z - zcc Z120) := by rw [hHk110]; exact y116
    have y117 : tot H ≤ tot Hk110 + (zss Z - zss Z120) := by rw [hHk110]; exact y117
    refine W.tight (k := zcc Z - zcc Z120) (n := zss Z - zss Z120) (by first | exact tg9 y116 k111 zlZ120.1 zoZ.1 | omega) (by first | exact tg9 y117 k112 zlZ120.2.1 zoZ.2.1 | omega) ?_
    have hl : lv_has ls 2 [(0, .ref (ad 5)), (1, .ref (Z120.fa gf))] := by rw [zlZ120.2.2.2.2 gf hgf]; exact hl
    replace t122 : MJ V118 Z120 b := t122
    replace t123 : Imp ((V104 5 6).toInt < 400) (PCl V104 V118 ((V104 5 6).toInt.toNat) (V 40 (Int32.toNatClampNeg z103)) (V 69 gf)) := t123
    have pw := Imp.go t123 (by (first | exact om_834240bd0079 gd dp9 kdp rd rd2 pq109 | omega))
    have pi9 : (V104 5 6).toInt.toNat = gr.length + 1 := by (first | exact om_d8f28cb9db40 gd dp9 kdp rd rd2 pq109 | omega)
    rw [pi9] at pw
    obtain ⟨⟨pd1, pd2, pke⟩, ⟨pk1, pk2⟩, p69, p70, p71, p72⟩ := pw
    have wr124 : (V118 3 13).toInt = (V 3 13).toInt := congrArg Int32.toInt ((ajV118 3 13 rfl).trans (up2_o hV104 (by decide)))
    have wr125 : (V118 3 12).toInt = (V 3 12).toInt := congrArg Int32.toInt ((ajV118 3 12 rfl).trans (up2_o hV104 (by decide)))
    have wr126 : (V118 67 gf).toInt = ((V 67 gf)).toInt := (congrArg Int32.toInt ((pke gf (by (first | exact om_c9f168eff5a6 gd kdp rd rd2 | omega)) 67 (by decide) (by decide)).trans (up2_o hV104 (by decide))))
    have wr127 : (V118 68 gf).toInt = ((V 68 gf)).toInt := (congrArg Int32.toInt ((pke gf (by (first | exact om_c9f168eff5a6 gd kdp rd rd2 | omega)) 68 (by decide) (by decide)).trans (up2_o hV104 (by decide))))
    have wr128 : (V118 69 gf).toInt = ((V 69 gf)).toInt := (congrArg Int32.toInt ((pke gf (by (first | exact om_c9f168eff5a6 gd kdp rd rd2 | omega)) 69 (by decide) (by decide)).trans (up2_o hV104 (by decide))))
    have wr129 : (V118 80 gf).toInt = ((V 80 gf)).toInt := (congrArg Int32.toInt ((pke gf (by (first | exact om_c9f168eff5a6 gd kdp rd rd2 | omega)) 80 (by decide) (by decide)).trans (up2_o hV104 (by decide))))
    have wr130 : (V118 81 gf).toInt = ((V 81 gf)).toInt := (congrArg Int32.toInt ((pke gf (by (first | exact om_c9f168eff5a6 gd kdp rd rd2 | omega)) 81 (by decide) (by decide)).trans (up2_o hV104 (by decide))))
    have wr131 : (V118 82 gf).toInt = ((V 82 gf)).toInt := (congrArg Int32.toInt ((pke gf (by (first | exact om_c9f168eff5a6 gd kdp rd rd2 | omega)) 82 (by decide) (by decide)).trans (up2_o hV104 (by decide))))
    have wr132 : (V118 83 gf).toInt = ((V 83 gf)).toInt := (congrArg Int32.toInt ((pke gf (by (first | exact om_c9f168eff5a6 gd kdp rd rd2 | omega)) 83 (by decide) (by decide)).trans (up2_o hV104 (by decide))))
    have zi9 : Int32.toNatClampNeg z103 = (gm 0 4 - 1).toNat := by have h9 := i_clamp (x := z103) rfl (by (first | exact om_48e67766c161 r6 rh8 hz103 kcm | omega)); (first | exact om_096156de9f21 r6 rh8 hz103 kcm | omega)
    have oe9 : (V 40 (Int32.toNatClampNeg z103)).toInt = (gm 5 (gm 0 4 - 1).toNat) := by rw [zi9]; exact rh.2.2.2.2 _ (by (first | exact om_0739127ea2e5 rh8 hz103 kcm zi9 | omega))
    have or9 : 0 ≤ (V 40 (Int32.toNatClampNeg z103)).toInt ∧ (V 40 (Int32.toNatClampNeg z103)).toInt ≤ 299 := hMV 40 _
    have on9 := rn.2.1 (gm 5 (gm 0 4 - 1).toNat).toNat (by (first | exact om_7d31f9b90f4b ra2 r106 hmd pq107 wr124 oe9 | omega))
    have oc9 : Int32.toNatClampNeg (V 40 (Int32.toNatClampNeg z103)) = (gm 5 (gm 0 4 - 1).toNat).toNat := by have h9 := i_clamp (x := (V 40 (Int32.toNatClampNeg z103))) rfl (by (first | exact om_e487b4255ac5 r106 oe9 | omega)); (first | exact om_6f696ce95cd8 r106 oe9 h9 | omega)
    have wr133 := congrArg Int32.toInt p69
    have wr134 := congrArg Int32.toInt p70
    have wr135 : (V118 71 (gr.length + 1)).toInt = (V 26 (gm 5 (gm 0 4 - 1).toNat).toNat).toInt := by rw [p71, oc9]; exact congrArg Int32.toInt (up2_o hV104 (by decide))
    have wr136 : (V118 72 (gr.length + 1)).toInt = (V 27 (gm 5 (gm 0 4 - 1).toNat).toNat).toInt := by rw [p72, oc9]; exact congrArg Int32.toInt (up2_o hV104 (by decide))
    have rl137 : RWl V118 gB gr t0 := RWl.mv hlr (fun i9 hi9 c9 h1 h2 => ((pke i9 (by (first | exact om_f283c5eb8ec7 kdp rd rd2 pq109 pi9 pd1 hi9 | omega)) c9 h1 h2)).trans (show V104 c9 i9 = V c9 i9 from by rw [hV104]; exact up2_pl (by (first | exact om_ee77f77fb9b2 h1 h2 | omega)))) (fun j9 hj9 => ((ajV118 39 j9 rfl).trans (up2_o hV104 (by decide)))) (by rw [((ajV118 3 13 rfl).trans (up2_o hV104 (by decide)))]; exact Int.le_refl _) ((ajV118 3 12 rfl).trans (up2_o hV104 (by decide)))
    have es9 : ESw V104 V118 := (ESw.ag (show agr [(5, 6), (5, 9)] [67, 68, 69, 70, 71, 72, 73, 74, 75, 76, 77, 78, 79, 80, 81, 82, 83, 84, 85] V104 V118 from (agr.tr agr.rf ajV118 (by decide) (by decide))) (by decide))
    have rn6 : RWn V118 ow gB (mU (mU gm 0 4 (gm 0 4 - 1)) 0 6 0) := RWn.mv rn (fun j9 hj9 => by rw [mU_o _ _ (by (first | exact om_5f854a31b9e1 hj9 | omega)), mU_o _ _ (by (first | exact om_ed99846b0411 hj9 | omega))]) (fun x9 j9 hx9 _ => by rw [mU_o _ _ (by omega), mU_o _ _ (by omega)]) (fun k9 => (es9.1 k9).trans (up2_o hV104 (by decide))) (es9.2.1.trans (up2_o hV104 (by decide))) (es9.2.2.1.1.trans (up2_k hV104 (by decide))) (es9.2.2.1.2.1.trans (up2_k hV104 (by decide))) (fun c9 k9 h1 h2 h3 => (es9.2.2.2.1 c9 k9 h1 h2 h3).trans (up2_o hV104 (by (first | exact om_668b61b9bde8 h1 h2 | omega))))
    have fb8 : FRc V118 gB gr.length (Froot2 glv gmk gnd gfl gsp) := by rw [gl9]; exact ⟨⟨by (first | exact om_36161e850215 gk wr126 | omega), by (first | exact om_cb23ae8fe0b3 ph0 wr127 | omega)⟩, by (first | exact om_cd7d0a6a31bc q69 wr128 | omega), by (first | exact om_cd7d0a6a31bc q80 wr129 | omega), by (first | exact om_cd7d0a6a31bc q81 wr130 | omega), by (first | exact om_cd7d0a6a31bc q82 wr131 | omega), by (first | exact om_cd7d0a6a31bc q83 wr132 | omega), z83⟩
    have o1 := on9.1.1
    have o2 := on9.1.2.1
    have o3 := on9.2.2.1
    have o4 := on9.2.2.2.1
    have ft9 : FRc V118 gB (gr.length + 1) (Fclo0 glv (gm 5 (gm 0 4 - 1).toNat) (gm 1 (gm 5 (gm 0 4 - 1).toNat).toNat) (gm 2 (gm 5 (gm 0 4 - 1).toNat).toNat)) := ⟨⟨pk1, pk2⟩, ⟨by (first | exact om_25a0d8f2ad9d q69 wr128 wr133 | omega), ⟨by (first | exact om_cd7d0a6a31bc oe9 wr134 | omega), by (first | exact om_781849db1567 r106 oe9 wr134 | omega), by (first | exact om_3be32528d5ca ra2 hmd pq107 wr124 oe9 wr134 | omega)⟩, ⟨by (first | exact om_d27e05e34072 on9 wr135 | omega), by (first | exact om_2bec31ab216b on9 wr135 | omega), by (first | exact om_d1bc2bba9f14 on9 wr135 | omega)⟩, ⟨by (first | exact om_912f8345a519 on9 wr136 | omega), by (first | exact om_a9e786dbd9a0 on9 wr136 | omega), by (first | exact om_668e0ccf122a wr125 on9 wr136 | omega)⟩⟩⟩
    have w58 : (V118 5 8).toInt = gm 0 4 - 1 := by have h9 := congrArg Int32.toInt (es9.2.2.1.2.2); rw [up2_s hV104] at h9; (first | exact om_0178b07d408d rh8 hz103 kcm zi9 h9 | omega)
    have rz9 : RW V118 gB ((mU (mU gm 0 4 (gm 0 4 - 1)) 0 6 0), ga, Fclo0 glv (gm 5 (gm 0 4 - 1).toNat) (gm 1 (gm 5 (gm 0 4 - 1).toNat).toNat) (gm 2 (gm 5 (gm 0 4 - 1).toNat).toNat) :: Froot2 glv gmk gnd gfl gsp :: gr) := ⟨⟨ow, rn6⟩, ⟨(by show _ = (mU (mU gm 0 4 (gm 0 4 - 1)) 0 6 0) 0 6; rw [mU_s]; exact pd2), (fun h9 => by have h8 : (mU (mU gm 0 4 (gm 0 4 - 1)) 0 6 0) 0 6 = 1 := h9; rw [mU_s] at h8; exact absurd h8 (by decide)), (fun h9 => by have h8 : (mU (mU gm 0 4 (gm 0 4 - 1)) 0 6 0) 0 6 = 2 := h9; rw [mU_s] at h8; exact absurd h8 (by decide)), (by show _ = (mU (mU gm 0 4 (gm 0 4 - 1)) 0 6 0) 0 4; rw [mU_o _ _ (by (first | exact om_39a4284f0f43  | omega)), mU_s]; exact w58), fun i9 hi9 => by have h8 : (i9 : Int) < (mU (mU gm 0 4 (gm 0 4 - 1)) 0 6 0) 0 4 := hi9; rw [mU_o _ _ (by (first | exact om_39a4284f0f43  | omega)), mU_s] at h8; show _ = (mU (mU gm 0 4 (gm 0 4 - 1)) 0 6 0) 5 i9; rw [mU_o _ _ (by (first | exact om_196732db1e90  | omega)), mU_o _ _ (by (first | exact om_ec5f1df5f9c8  | omega)), es9.2.2.2.2 i9, up2_o hV104 (by decide)]; exact rh.2.2.2.2 i9 (by (first | exact om_322092cdccec rh8 hz103 kcm zi9 w58 h8 | omega))⟩, (show (V118 5 6).toInt = ((gr.length + 1 + 1 : Nat) : Int) from by (first | exact om_ea487894bae3 kdp rd rd2 pq109 pi9 pd1 | omega)), t0, (show (V118 5 7).toInt = ((t0 : Nat) : Int) from by rw [((ajV118 5 7 rfl).trans (up2_k hV104 (by decide))), rt9, tz9]), RWl.push (RWl.push rl137 fb8 rfl (np9 rfl)) ft9 rfl (np9 rfl)⟩
    have rx138 : RW V118 gB (undoM gm ga gr glv gmk gnd gfl gsp) := by rw [un_c (show gmk < gm 0 4 from by (first | exact om_2396a1771ee7 rh8 q80 f102 hz103 kcm wr129 zi9 w58 | omega))]; exact rz9
    refine W.know (fun kr1 kr2 => ?_)
    refine W.widen (k := zcc Z) (n := zss Z) (Nat.sub_le _ _) (Nat.sub_le _ _) ?_
    exact W.vret hx hb hr (fun t ht hW => ⟨⟨(V118, L, Z120), rfl, ⟨hMV118, agV118, rfl, zoZ120, t122, rx138⟩, ⟨by rw [ht]; exact hP, va_K.moved hW.alike hK, hD⟩, by rw [ht]; exact kr1, by rw [ht]; exact kr2⟩, hS.F ht⟩) hS.2.2 dX5_undoNext_38
abbrev r_x_goOnGetting9 (Z : XZ) : Room := { frames := 5, cells := zcc Z, slots := zss Z, locals := 121 }
abbrev q_x_goOnGetting9 (D : va_G) (ks : KS) (ad : Nat → Nat) (kk : Nat → ClassId) (V : Vf) (L : Lf) (Z : XZ) (b : Nat) (gf : Nat) (gB : Bk) (gm : Mm) (ga : Int32) (gfr : Fr) (gr : List Fr) (A : Nat → Prop) : Array Value → State → Outcome → State → Prop := qZv D (fun (u : Vf × Lf × XZ) => rgd bX u.1 ∧ agr [(3, 13), (5, 6), (5, 8), (5, 9), (5, 10), (5, 11), (5, 12), (5, 13), (5, 14)] [25, 26, 27, 28, 30, 67, 68, 69, 70, 71, 72, 73, 74, 75, 76, 77, 78, 79, 80, 81, 82, 83, 84, 85] V u.1 ∧ u.2.1 = L ∧ ZL Z u.2.2 ∧ (MJ u.1 u.2.2 b) ∧ (RW u.1 gB (stM gB (gm, ga, gfr :: gr)))) (fun u => xw ad kk u.1 u.2.1 u.2.2) (fun u => xty kk u.2.2) (fun u => zcc Z - zcc u.2.2) (fun u => zss Z - zss u.2.2) A
set_option maxHeartbeats 4000000 in
set_option maxRecDepth 100000 in
theorem x_goOnGetting9 (l : Launch) (D : va_G) (ks : KS) (sz : Nat) (ad : Nat → Nat) (kk : Nat → ClassId) (V : Vf) (L : Lf) (Z : XZ) (b : Nat) (gf : Nat) (gB : Bk) (gm : Mm) (ga : Int32) (gfr : Fr) (gr : List Fr) (hMV : rgd bX V) (hb2 : b < 2) (hgf : gf < Z.nf) (mo : MO V Z b gf True (QN V b) (QN V b)) (gd : (gf : Int) + 1 = (V 5 6).toInt) (gk : (V 67 gf).toInt = 0) (rwq : RW V gB (gm, ga, gfr :: gr)) (bc : BKc V b gB) (sf : SF gB (gm, ga, gfr :: gr))  : Met l yX5_goOnGetting (Cond.code yX5_goOnGetting cX5_goOnGetting 2 none :: GW) (r_x_goOnGetting9 Z) (va_Pc [.ref (ad 5), .ref (Z.fa gf)] (gp D ks (xw ad kk V L Z) (xty kk Z) sz)) (q_x_goOnGetting9 D ks ad kk V L Z  b gf gB gm ga gfr gr (va_A (xw ad kk V L Z) sz)) (zcc Z) (zss Z) (va_A (xw ad kk V L Z) sz) := by
  refine g_met (q_x_goOnGetting9 D ks ad kk V L Z  b gf gB gm ga gfr gr) (by decide) (Nat.le_of_ble_eq_true rfl) ?_
  intro p e s m below meth c A ls H locs hx hb hr hml hown hg hlocks hin hnw hgk hP hK hD hS hA hl
  replace hown : s.vm.findClass RX5 = some m.cls := hown
  replace hl : lv_has ls 2 [(0, .ref (ad 5)), (1, .ref (Z.fa gf))] := hl
  replace hP : va_P D vwCl (xw ad kk V L Z) H := hP
  replace hD : va_D A (xw ad kk V L Z) := hD
  replace hK : va_K D vwCl (xty kk Z) s := hK
  have agV : agr [(3, 13), (5, 6), (5, 8), (5, 9), (5, 10), (5, 11), (5, 12), (5, 13), (5, 14)] [25, 26, 27, 28, 30, 67, 68, 69, 70, 71, 72, 73, 74, 75, 76, 77, 78, 79, 80, 81, 82, 83, 84, 85] V V := agr.rf
  have zoZ : ZL Z Z := ZL.rf
  refine W.know (fun ka kb => ?_)
  refine W.tight (k := zcc Z - zcc Z) (n := zss Z - zss Z) (by (first | exact om_7244b830ee02 ka | omega)) (by (first | exact om_7244b830ee02 kb | omega)) ?_
  have r1 : 0 ≤ ((V 5 6)).toInt ∧ ((V 5 6)).toInt ≤ 400 := hMV 5 6
  have kdp := i_clamp (x := V 5 6) rfl (by (first | exact om_e301311e2a25 gd r1 | omega))
  have hdn : (gf : Int) + 1 ≤ (Z.nf : Int) := by (first | exact om_bb8713a56da6 hgf gd kdp | omega)
  have mup := MO.up mo
  have msz := mup.1
  have mbk := mup.2.2.2.1
  obtain ⟨xk, fk⟩ := MO.fk mo
  have r2 : (-1) ≤ ((V 71 gf)).toInt ∧ ((V 71 gf)).toInt ≤ 23 := hMV 71 gf
  have r3 : 0 ≤ ((V 75 gf)).toInt ∧ ((V 75 gf)).toInt ≤ 12 := hMV 75 gf
  have r4 : 0 ≤ ((V 80 gf)).toInt ∧ ((V 80 gf)).toInt ≤ 300 := hMV 80 gf
  have r5 : 0 ≤ ((V 84 gf)).toInt ∧ ((V 84 gf)).toInt ≤ 2147483647 := hMV 84 gf
  have r6 : 0 ≤ ((V 5 8)).toInt ∧ ((V 5 8)).toInt ≤ 300 := hMV 5 8
  have r7 : 0 ≤ ((V 5 9)).toInt ∧ ((V 5 9)).toInt ≤ 3 := hMV 5 9
  have r8 : 0 ≤ ((V 3 13)).toInt ∧ ((V 3 13)).toInt ≤ 300 := hMV 3 13
  have r9 : 0 ≤ ((V 43 (5 * b + 2))).toInt ∧ ((V 43 (5 * b + 2))).toInt ≤ ((xcap (5 * b + 2) : Nat) : Int) := hMV 43 (5 * b + 2)
  have r10 : xcap (5 * b + 2) = 24 := xcap_2
  have r11 : 0 ≤ ((V 41 b)).toInt ∧ ((V 41 b)).toInt ≤ 12 := hMV 41 b
  have r12 : 0 ≤ ((V 42 b)).toInt ∧ ((V 42 b)).toInt ≤ 8200 := hMV 42 b
  have fm := fk.2.2.2.2.2.2.1 (by (first | exact om_b66ba74381d5 gk | omega))
  have m1 : Int32.toInt (-1) = -1 := by decide
  have rw0 := rwq
  obtain ⟨⟨ow, rn⟩, rh, rd, tw9, rt9, rl⟩ := rw0
  replace rn : RWn V ow gB gm := rn
  replace rh : RWh V gm ga := rh
  have rd2 : (V 5 6).toInt = ((gr.length + 1 : Nat) : Int) := rd
  have gl9 : gr.length = gf := by (first | exact om_737fc00ff7e4 gd kdp rd rd2 | omega)
  have sl9 : gr.length ≤ 394 := by have h9 : gr.length + 1 ≤ 395 := sf.1; (first | exact om_5c206326bd12 gd r1 kdp rd rd2 h9 | omega)
  have rh1 : (V 5 9).toInt = gm 0 6 := rh.1
  have ra2 : (V 3 13).toInt = gm 0 2 := rn.1.1.2.2.1
  have rl0 := rl
  obtain ⟨t0, tl9, hf0, hbs9, hpl9, hlr⟩ := rl0
  rw [gl9] at hf0 hbs9
  rcases FRc.k0 hf0 gk with ⟨lv, c, sc, mk, hfe⟩ | ⟨lv, c, sc, mk, hfe⟩ | ⟨lv, mk, nd, fl, sp, hfe⟩
  · skip
    have hf : FRc V gB gf (Froot0 lv c sc mk) := by rw [← hfe]; exact hf0
    have tl8 : tw9 = t0 + (Froot0 lv c sc mk : Fr).2.2.2.length := by rw [← hfe]; exact tl9
    obtain ⟨⟨k67, k68⟩, q69, ⟨q71, c0, c1⟩, ⟨q72, s0, s1⟩, q80, q83⟩ := hf
    have tz9 : tw9 = t0 := tl8
    have rh8 : (V 5 8).toInt = gm 0 4 := rh.2.2.2.1
    have mk9 : (V 80 gf).toInt ≤ (V 5 8).toInt := fk.2.2.2.2.2.2.1 (by (first | exact om_b66ba74381d5 gk | omega))
    refine lv_aload_n hx hb dX5_goOnGetting_0 rfl (lv_at hl 1 rfl) ?_
    refine va_getN (D := D) (ci := 4) (v := .int (V 68 gf)) (fs := (xfFrame V gf)) (C := RX4) (T := TX4) (N := 19) hx hb hg inX4 hown hK hP (336 + gf) (xgFrame hgf) rfl 1 (by decide) (hnw.use 1190 n1190 rfl) (fun _ h9 => h9) rfl dX5_goOnGetting_1 ?_
    refine lv_if_ne (tgt := 29) hx hb dX5_goOnGetting_4 (by decide) (fun c13 => ?_) (fun c13 => ?_)
    · skip
      have f14 : ((V 68 gf)).toInt ≠ 0 := b_neq rfl (by decide) c13
      exfalso; (first | exact om_0b51723c7ef6 k68 f14 | omega)
    · skip
      have f15 : ((V 68 gf)).toInt = 0 := b_eq rfl (by decide) c13
      refine lv_aload_n hx hb dX5_goOnGetting_7 rfl (lv_at hl 1 rfl) ?_
      refine lv_iconst (v := 1) hx hb dX5_goOnGetting_8 (by decide) ?_
      refine va_putN (D := D) (ci := 4) (v := .int 1) (ty := tyX4 1) (fs := (xfFrame V gf)) (C := RX4) (T := TX4) (N := 19) hx hb hg inX4 tyX4 tyX4_ok nmX4 hown hK hP hD hS (336 + gf) (xgFrame hgf) rfl 1 (by decide) (hnw.use 1190 n1190 rfl) (fun _ h9 => h9) rfl (tyX4_ok 1 (by decide)) rfl rfl (Nat.le_of_ble_eq_true rfl) dX5_goOnGetting_9 (fun H locs hP hD hS => ?_)
      obtain ⟨V16, hV16⟩ : ∃ z, z = up2 V 68 gf 1 := ⟨_, rfl⟩
      have ew17 : (xw ad kk V L Z).set (336 + gf) ((Z.fa gf), .inr (4, (xfFrame V gf).set 1 (.int 1))) = xw ad kk V16 L Z := by rw [hV16]; exact xpFrame_phase hgf
      have hP : va_P D vwCl (xw ad kk V16 L Z) H := by rw [← ew17]; exact hP
      have hD : va_D A (xw ad kk V16 L Z) := by rw [← ew17]; exact hD
      have hMV16 : rgd bX V16 := hMV.put hV16 (i_full _)
      have agV16 : agr [(3, 13), (5, 6), (5, 8), (5, 9), (5, 10), (5, 11), (5, 12), (5, 13), (5, 14)] [25, 26, 27, 28, 30, 67, 68, 69, 70, 71, 72, 73, 74, 75, 76, 77, 78, 79, 80, 81, 82, 83, 84, 85] V V16 := agV.up hV16 rfl
      have wr18 : (V16 3 13).toInt = (V 3 13).toInt := congrArg Int32.toInt (up2_o hV16 (by decide))
      have wr19 : (V16 3 12).toInt = (V 3 12).toInt := congrArg Int32.toInt (up2_o hV16 (by decide))
      have wr20 : (V16 67 gf).toInt = ((V 67 gf)).toInt := (congrArg Int32.toInt (up2_o hV16 (by decide)))
      have wr21 : (V16 68 gf).toInt = 1 := (congrArg Int32.toInt (up2_s hV16)).trans (by decide)
      have wr22 : (V16 69 gf).toInt = ((V 69 gf)).toInt := (congrArg Int32.toInt (up2_o hV16 (by decide)))
      have wr23 : (V16 80 gf).toInt = ((V 80 gf)).toInt := (congrArg Int32.toInt (up2_o hV16 (by decide)))
      have wr24 : (V16 83 gf).toInt = ((V 83 gf)).toInt := (congrArg Int32.toInt (up2_o hV16 (by decide)))
      have me25 : ME V V16 gf := (ME.up ME.rf hV16 (Or.inl ⟨by decide, by decide, Nat.le_refl _⟩))
      have rl26 : RWl V16 gB gr t0 := RWl.mv hlr (fun i9 hi9 c9 h1 h2 => me25.2.1 c9 i9 h1 h2 (by (first | exact om_59a77ef8aaca gd kdp rd rd2 hi9 | omega))) (fun j9 hj9 => (up2_o hV16 (by decide))) (by rw [(up2_o hV16 (by decide))]; exact Int.le_refl _) (up2_o hV16 (by decide))
      have pq27 : (V16 5 6).toInt = ((V 5 6)).toInt := congrArg Int32.toInt (up2_o hV16 (by decide))
      have fo8 : FRc V16 gB gr.length (Froot1 lv c sc mk) := by rw [gl9]; exact ⟨⟨by (first | exact om_36161e850215 gk wr20 | omega), by (first | exact om_710535a98d88 wr21 | omega)⟩, by (first | exact om_cd7d0a6a31bc q69 wr22 | omega), by (first | exact om_cd7d0a6a31bc q80 wr23 | omega), by (first | exact om_36161e850215 q83 wr24 | omega)⟩
      have rwx28 : RW V16 gB (gm, ga, Froot1 lv c sc mk :: gr) := RW.id rwq (ESw.ag (show agr [] [68] V V16 from (agr.up agr.rf hV16 rfl)) (by decide)) (up2_o hV16 (by decide)) (up2_o hV16 (by decide)) (up2_o hV16 (by decide)) (up2_o hV16 (by decide)) (show (V16 5 6).toInt = ((gr.length + 1 : Nat) : Int) from by (first | exact om_66365ac95418 kdp rd rd2 pq27 | omega)) (show (V16 5 7).toInt = ((t0 : Nat) : Int) from by rw [(up2_o hV16 (by decide)), rt9, tz9]) (RWl.push rl26 fo8 rfl (np9 rfl))
      refine lv_aload_n hx hb dX5_goOnGetting_12 rfl (lv_at hl 0 rfl) ?_
      refine lv_aload_n hx hb dX5_goOnGetting_13 rfl (lv_at hl 1 rfl) ?_
      refine va_getN (D := D) (ci := 4) (v := .int (V16 71 gf)) (fs := (xfFrame V16 gf)) (C := RX4) (T := TX4) (N := 19) hx hb hg inX4 hown hK hP (336 + gf) (xgFrame hgf) rfl 4 (by decide) (hnw.use 1193 n1193 rfl) (fun _ h9 => h9) rfl dX5_goOnGetting_14 ?_
      refine g_top (v := (V 71 gf)) (up2_o hV16 (by decide)) ?_
      refine lv_aload_n hx hb dX5_goOnGetting_17 rfl (lv_at hl 1 rfl) ?_
      refine va_getN (D := D) (ci := 4) (v := .int (V16 72 gf)) (fs := (xfFrame V16 gf)) (C := RX4) (T := TX4) (N := 19) hx hb hg inX4 hown hK hP (336 + gf) (xgFrame hgf) rfl 5 (by decide) (hnw.use 1194 n1194 rfl) (fun _ h9 => h9) rfl dX5_goOnGetting_18 ?_
      refine g_top (v := (V 72 gf)) (up2_o hV16 (by decide)) ?_
      have r29 : 0 ≤ ((V 72 gf)).toInt ∧ ((V 72 gf)).toInt ≤ 39 := hMV 72 gf
      refine lv_aload_n hx hb dX5_goOnGetting_21 rfl (lv_at hl 1 rfl) ?_
      refine va_getN (D := D) (ci := 4) (v := .int (V16 69 gf)) (fs := (xfFrame V16 gf)) (C := RX4) (T := TX4) (N := 19) hx hb hg inX4 hown hK hP (336 + gf) (xgFrame hgf) rfl 2 (by decide) (hnw.use 1191 n1191 rfl) (fun _ h9 => h9) rfl dX5_goOnGetting_22 ?_
      refine g_top (v := (V 69 gf)) (up2_o hV16 (by decide)) ?_
      have me30 : ME V V16 gf := (ME.up ME.rf hV16 (Or.inl ⟨by decide, by decide, Nat.le_refl _⟩))
      have pq31 : (V16 67 gf).toInt = ((V 67 gf)).toInt := congrArg Int32.toInt (up2_o hV16 (by decide))
      have pq32 : (V16 68 gf).toInt = 1 := (congrArg Int32.toInt (up2_s hV16)).trans (by decide)
      have pq33 : (V16 70 gf).toInt = ((V 70 gf)).toInt := congrArg Int32.toInt (up2_o hV16 (by decide))
      have pq34 : (V16 71 gf).toInt = ((V 71 gf)).toInt := congrArg Int32.toInt (up2_o hV16 (by decide))
      have pq35 : (V16 75 gf).toInt = ((V 75 gf)).toInt := congrArg Int32.toInt (up2_o hV16 (by decide))
      have pq36 : (V16 76 gf).toInt = ((V 76 gf)).toInt := congrArg Int32.toInt (up2_o hV16 (by decide))
      have pq37 : (V16 80 gf).toInt = ((V 80 gf)).toInt := congrArg Int32.toInt (up2_o hV16 (by decide))
      have pq38 : (V16 84 gf).toInt = ((V 84 gf)).toInt := congrArg Int32.toInt (up2_o hV16 (by decide))
      have pq39 : (V16 5 8).toInt = ((V 5 8)).toInt := congrArg Int32.toInt (up2_o hV16 (by decide))
      have pq40 : (V16 5 9).toInt = ((V 5 9)).toInt := congrArg Int32.toInt (up2_o hV16 (by decide))
      have pq41 : (V16 3 13).toInt = ((V 3 13)).toInt := congrArg Int32.toInt (up2_o hV16 (by decide))
      have pq42 : (V16 43 (5 * b + 2)).toInt = ((V 43 (5 * b + 2))).toInt := congrArg Int32.toInt (up2_o hV16 (by decide))
      have pq43 : (V16 42 b).toInt = ((V 42 b)).toInt := congrArg Int32.toInt (up2_o hV16 (by decide))
      have pq44 : (V16 41 b).toInt = ((V 41 b)).toInt := congrArg Int32.toInt (up2_o hV16 (by decide))
      have mo45 : MO V16 Z b gf True True False := MO.ch mo me30 (up2_o hV16 (by decide)) (up2_o hV16 (by decide)) False.elim (fun x h => FK.k0 (by (first | exact om_36161e850215 gk wr20 | omega)) (by (first | exact om_bf9195679c8b fm q80 rh8 wr23 pq39 | omega)))
      have mt46 : MTw V16 Z b := MO.mtw mo45 (by (first | exact om_6f738fa1827e hgf gd kdp rd rd2 pq27 | omega)) (by (first | exact om_78ea3e5e24cc gd kdp rd rd2 pq27 | omega))
      have me47 : ME V V16 0 := (ME.up ME.rf hV16 (Or.inl ⟨by decide, by decide, by (first | exact om_c9a7d7f72290 gd r1 kdp rd rd2 sl9 pq27 | omega)⟩))
      have bc48 : BKc V16 b gB := BKc.be bc me47.1
      refine W.know (fun k50 k51 => ?_)
      obtain ⟨Hk49, hHk49⟩ : ∃ z, z = H := ⟨_, rfl⟩
      have k50 : Hk49.size ≤ s.heap.size + (zcc Z - zcc Z) := by rw [hHk49]; exact k50
      have k51 : tot Hk49 ≤ tot s.heap + (zss Z - zss Z) := by rw [hHk49]; exact k51
      refine gZ_void (gA_runV (As := [.int (V 71 gf), .int (V 72 gf), .int (V 69 gf)]) (rest := []) (ci := 5) (q0 := 5) hx hb hml hown hg hP hD hK hS hA hnw hgk (x_seek9 l D ks H.size ad kk V16 L Z (V 71 gf) (V 72 gf) (V 69 gf) (b) (gB) (gm) (ga) ((Froot1 lv c sc mk :: gr)) hMV16 (by (first | exact om_1d9f1e90ea92 r2 q71 c0 pq34 | omega)) (by (first | exact om_14e778f06b9b q72 r29 | omega)) (show b < 2 from by (first | exact om_289974d36c9f hb2 mup | omega)) mt46 rwx28 bc48 (show (V16 5 6).toInt ≤ 395 from by (first | exact om_1150cee5daf6 gd r1 kdp rd rd2 sl9 pq27 | omega)) (show 0 ≤ ((V 71 gf)).toInt from by (first | exact om_fa3912eb57dd r2 q71 c0 pq34 | omega)) (show ((V 71 gf)).toInt < ((nC gB : Nat) : Int) from by (first | exact om_59bcb87d12a5 q71 c1 pq34 | omega)) (show 0 ≤ ((V 72 gf)).toInt from by (first | exact om_5ecac20dd41b q72 r29 | omega)) (show ((V 72 gf)).toInt < (V16 3 12).toInt from by omega)) w1256 w1258 w45 w171 w1259 rfl xgMachine hdV_yX5_seek ⟨Nat.le_of_ble_eq_true rfl, Nat.le_of_ble_eq_true rfl⟩ rfl hl.1 rfl (Nat.le_of_ble_eq_true rfl) dX5_goOnGetting_25 ⟨z1 zoZ.1, z1 zoZ.2.1⟩) hD hS hA (fun u53 H locs w54 hP hD hK hS y55 y56 => ?_)
      obtain ⟨V57, L58, Z59⟩ := u53
      obtain ⟨hMV57, ajV57, axL58, zlZ59, t61, t62⟩ := w54
      have axL58 : L = L58 := Eq.symm axL58
      subst axL58
      replace hP : va_P D vwCl (xw ad kk V57 L Z59) H := hP
      replace hD : va_D A (xw ad kk V57 L Z59) := hD
      replace hK : va_K D vwCl (xty kk Z59) s := hK
      replace hMV57 : rgd bX V57 := hMV57
      replace ajV57 : agr [(3, 13), (5, 6), (5, 9), (5, 10), (5, 11), (5, 12), (5, 13), (5, 14)] [25, 26, 27, 28, 30, 67, 68, 69, 70, 71, 72, 73, 74, 75, 76, 77, 78, 79, 80, 81, 82, 83, 84, 85] V16 V57 := ajV57
      have agV57 : agr [(3, 13), (5, 6), (5, 8), (5, 9), (5, 10), (5, 11), (5, 12), (5, 13), (5, 14)] [25, 26, 27, 28, 30, 67, 68, 69, 70, 71, 72, 73, 74, 75, 76, 77, 78, 79, 80, 81, 82, 83, 84, 85] V V57 := agV16.tr ajV57 (by decide) (by decide)
      replace zlZ59 : ZL Z Z59 := zlZ59
      have zoZ59 : ZL Z Z59 := ZL.tr zoZ zlZ59
      have ziZ59 := zlZ59.1
      have zjZ59 := zlZ59.2.1
      have zkZ59 := zlZ59.2.2.1
      have zmZ59 := zoZ59.1
      have znZ59 := zoZ59.2.1
      have zpZ_Z59 := zoZ.1
      have zqZ_Z59 := zoZ.2.1
      have y55 : H.size ≤ Hk49.size + (zcc Z - zcc Z59) := by rw [hHk49]; exact y55
      have y56 : tot H ≤ tot Hk49 + (zss Z - zss Z59) := by rw [hHk49]; exact y56
      refine W.tight (k := zcc Z - zcc Z59) (n := zss Z - zss Z59) (by first | exact tg9 y55 k50 zlZ59.1 zoZ.1 | omega) (by first | exact tg9 y56 k51 zlZ59.2.1 zoZ.2.1 | omega) ?_
      have hl : lv_has ls 2 [(0, .ref (ad 5)), (1, .ref (Z59.fa gf))] := by rw [zlZ59.2.2.2.2 gf hgf]; exact hl
      replace t61 : MJ V57 Z59 b := t61
      replace t62 : RW V57 gB (seekM gB gm ga (Froot1 lv c sc mk :: gr) ((V 71 gf)).toInt ((V 72 gf)).toInt ((V 69 gf)).toInt) := t62
      have rx63 : RW V57 gB (stM gB (gm, ga, gfr :: gr)) := by have h9 := t62; rw [q71, q72, q69] at h9; rw [hfe, st_00]; exact h9
      refine W.know (fun kr1 kr2 => ?_)
      refine W.widen (k := zcc Z) (n := zss Z) (Nat.sub_le _ _) (Nat.sub_le _ _) ?_
      exact W.vret hx hb hr (fun t ht hW => ⟨⟨(V57, L, Z59), rfl, ⟨hMV57, agV57, rfl, zoZ59, t61, rx63⟩, ⟨by rw [ht]; exact hP, va_K.moved hW.alike hK, hD⟩, by rw [ht]; exact kr1, by rw [ht]; exact kr2⟩, hS.F ht⟩) hS.2.2 dX5_goOnGetting_28
  · skip
    have hf : FRc V gB gf (Froot1 lv c sc mk) := by rw [← hfe]; exact hf0
    have tl8 : tw9 = t0 + (Froot1 lv c sc mk : Fr).2.2.2.length := by rw [← hfe]; exact tl9
    obtain ⟨⟨k67, k68⟩, q69, q80, q83⟩ := hf
    have tz9 : tw9 = t0 := tl8
    have rh8 : (V 5 8).toInt = gm 0 4 := rh.2.2.2.1
    have mk9 : (V 80 gf).toInt ≤ (V 5 8).toInt := fk.2.2.2.2.2.2.1 (by (first | exact om_b66ba74381d5 gk | omega))
    refine lv_aload_n hx hb dX5_goOnGetting_0 rfl (lv_at hl 1 rfl) ?_
    refine va_getN (D := D) (ci := 4) (v := .int (V 68 gf)) (fs := (xfFrame V gf)) (C := RX4) (T := TX4) (N := 19) hx hb hg inX4 hown hK hP (336 + gf) (xgFrame hgf) rfl 1 (by decide) (hnw.use 1190 n1190 rfl) (fun _ h9 => h9) rfl dX5_goOnGetting_1 ?_
    refine lv_if_ne (tgt := 29) hx hb dX5_goOnGetting_4 (by decide) (fun c64 => ?_) (fun c64 => ?_)
    · skip
      have f65 : ((V 68 gf)).toInt ≠ 0 := b_neq rfl (by decide) c64
      refine lv_aload_n hx hb dX5_goOnGetting_29 rfl (lv_at hl 1 rfl) ?_
      refine va_getN (D := D) (ci := 4) (v := .int (V 68 gf)) (fs := (xfFrame V gf)) (C := RX4) (T := TX4) (N := 19) hx hb hg inX4 hown hK hP (336 + gf) (xgFrame hgf) rfl 1 (by decide) (hnw.use 1190 n1190 rfl) (fun _ h9 => h9) rfl dX5_goOnGetting_30 ?_
      refine lv_iconst (v := 1) hx hb dX5_goOnGetting_33 (by decide) ?_
      refine lv_icmp_ne (tgt := 71) hx hb dX5_goOnGetting_34 (by decide) (fun c66 => ?_) (fun c66 => ?_)
      · skip
        have f67 : ((V 68 gf)).toInt ≠ 1 := b_neq rfl (by decide) c66
        exfalso; (first | exact om_b36fcf15d462 k68 f67 | omega)
      · skip
        have f68 : ((V 68 gf)).toInt = 1 := b_eq rfl (by decide) c66
        refine lv_aload_n hx hb dX5_goOnGetting_37 rfl (lv_at hl 0 rfl) ?_
        refine va_get (D := D) (ci := 5) (v := .int (V 5 9)) (fs := (xfMachine ad V L Z)) (C := RX5) (T := TX5) (N := 15) hx hb hg inX5 hown hK hP 5 xgMachine rfl 9 (by decide) (hg _ w676) (fun _ h9 => h9) rfl dX5_goOnGetting_38 ?_
        refine lv_iconst (v := 2) hx hb dX5_goOnGetting_41 (by decide) ?_
        refine lv_icmp_eq (tgt := 58) hx hb dX5_goOnGetting_42 (by decide) (fun c69 => ?_) (fun c69 => ?_)
        · skip
          have f70 : ((V 5 9)).toInt = 2 := b_eq rfl (by decide) c69
          refine lv_aload_n hx hb dX5_goOnGetting_58 rfl (lv_at hl 0 rfl) ?_
          refine lv_aload_n hx hb dX5_goOnGetting_59 rfl (lv_at hl 1 rfl) ?_
          refine gA_void (gA_runV (As := [.ref (Z.fa gf)]) (rest := []) (ci := 5) (q0 := 5) hx hb hml hown hg hP hD hK hS hA hnw hgk (x_holdFailure9 l D ks H.size ad kk V L Z (gf) hMV (show gf < Z.nf from by (first | exact om_725d0642dd96 hgf gd kdp rd rd2 | omega))) w1312 w1314 w51 w171 w1315 rfl xgMachine hdV_yX5_holdFailure ⟨Nat.le_of_ble_eq_true rfl, Nat.le_of_ble_eq_true rfl⟩ rfl hl.1 rfl (Nat.le_of_ble_eq_true rfl) dX5_goOnGetting_60 ⟨z0, z0⟩) hP hD hK hS hA (fun u72 H locs w73 hP hD hK hS => ?_)
          obtain ⟨V75, L76⟩ := u72
          obtain ⟨hMV75, ajV75, axL76, t74⟩ := w73
          have axL76 : L = L76 := Eq.symm axL76
          subst axL76
          replace hP : va_P D vwCl (xw ad kk V75 L Z) H := hP
          replace hD : va_D A (xw ad kk V75 L Z) := hD
          replace hMV75 : rgd bX V75 := hMV75
          replace ajV75 : agr [] [81, 82] V V75 := ajV75
          have agV75 : agr [(3, 13), (5, 6), (5, 8), (5, 9), (5, 10), (5, 11), (5, 12), (5, 13), (5, 14)] [25, 26, 27, 28, 30, 67, 68, 69, 70, 71, 72, 73, 74, 75, 76, 77, 78, 79, 80, 81, 82, 83, 84, 85] V V75 := agV.tr ajV75 (by decide) (by decide)
          replace t74 : ((True) ∧ V75 = (up2 (up2 V 81 gf (V 5 11)) 82 gf (V 5 12))) := t74
          have hw77 := t74.2
          obtain ⟨V78, hV78⟩ : ∃ z, z = up2 V 81 gf (V 5 11) := ⟨_, rfl⟩
          have hV75 : V75 = up2 V78 82 gf (V 5 12) := by rw [hw77, hV78]
          refine lv_aload_n hx hb dX5_goOnGetting_63 rfl (lv_at hl 1 rfl) ?_
          refine lv_iconst (v := 2) hx hb dX5_goOnGetting_64 (by decide) ?_
          refine va_putN (D := D) (ci := 4) (v := .int 2) (ty := tyX4 1) (fs := (xfFrame V75 gf)) (C := RX4) (T := TX4) (N := 19) hx hb hg inX4 tyX4 tyX4_ok nmX4 hown hK hP hD hS (336 + gf) (xgFrame hgf) rfl 1 (by decide) (hnw.use 1190 n1190 rfl) (fun _ h9 => h9) rfl (tyX4_ok 1 (by decide)) rfl rfl (Nat.le_of_ble_eq_true rfl) dX5_goOnGetting_65 (fun H locs hP hD hS => ?_)
          obtain ⟨V79, hV79⟩ : ∃ z, z = up2 V75 68 gf 2 := ⟨_, rfl⟩
          have ew80 : (xw ad kk V75 L Z).set (336 + gf) ((Z.fa gf), .inr (4, (xfFrame V75 gf).set 1 (.int 2))) = xw ad kk V79 L Z := by rw [hV79]; exact xpFrame_phase hgf
          have hP : va_P D vwCl (xw ad kk V79 L Z) H := by rw [← ew80]; exact hP
          have hD : va_D A (xw ad kk V79 L Z) := by rw [← ew80]; exact hD
          have hMV79 : rgd bX V79 := hMV75.put hV79 (i_full _)
          have agV79 : agr [(3, 13), (5, 6), (5, 8), (5, 9), (5, 10), (5, 11), (5, 12), (5, 13), (5, 14)] [25, 26, 27, 28, 30, 67, 68, 69, 70, 71, 72, 73, 74, 75, 76, 77, 78, 79, 80, 81, 82, 83, 84, 85] V V79 := agV75.up hV79 rfl
          refine lv_goto (tgt := 84) hx hb dX5_goOnGetting_68 (by decide) ?_
          have rh2 : (V 5 11).toInt = gm 0 8 ∧ (V 5 12).toInt = gm 0 9 := rh.2.2.1 (show gm 0 6 = 2 from by (first | exact om_147a8ac6eacb rh1 f70 | omega))
          have wr81 : (V79 3 13).toInt = (V 3 13).toInt := congrArg Int32.toInt ((up2_o hV79 (by decide)).trans ((up2_o hV75 (by decide)).trans (up2_o hV78 (by decide))))
          have wr82 : (V79 3 12).toInt = (V 3 12).toInt := congrArg Int32.toInt ((up2_o hV79 (by decide)).trans ((up2_o hV75 (by decide)).trans (up2_o hV78 (by decide))))
          have wr83 : (V79 67 gf).toInt = ((V 67 gf)).toInt := (congrArg Int32.toInt ((up2_o hV79 (by decide)).trans ((up2_o hV75 (by decide)).trans (up2_o hV78 (by decide)))))
          have wr84 : (V79 68 gf).toInt = 2 := (congrArg Int32.toInt (up2_s hV79)).trans (by decide)
          have wr85 : (V79 69 gf).toInt = ((V 69 gf)).toInt := (congrArg Int32.toInt ((up2_o hV79 (by decide)).trans ((up2_o hV75 (by decide)).trans (up2_o hV78 (by decide)))))
          have wr86 : (V79 80 gf).toInt = ((V 80 gf)).toInt := (congrArg Int32.toInt ((up2_o hV79 (by decide)).trans ((up2_o hV75 (by decide)).trans (up2_o hV78 (by decide)))))
          have wr87 : (V79 81 gf).toInt = ((V 5 11)).toInt := (congrArg Int32.toInt ((up2_o hV79 (by decide)).trans ((up2_o hV75 (by decide)).trans (up2_s hV78))))
          have wr88 : (V79 82 gf).toInt = ((V 5 12)).toInt := (congrArg Int32.toInt ((up2_o hV79 (by decide)).trans (up2_s hV75)))
          have wr89 : (V79 83 gf).toInt = ((V 83 gf)).toInt := (congrArg Int32.toInt ((up2_o hV79 (by decide)).trans ((up2_o hV75 (by decide)).trans (up2_o hV78 (by decide)))))
          have me90 : ME V V79 gf := (ME.up (ME.up (ME.up ME.rf hV78 (Or.inl ⟨by decide, by decide, Nat.le_refl _⟩)) hV75 (Or.inl ⟨by decide, by decide, Nat.le_refl _⟩)) hV79 (Or.inl ⟨by decide, by decide, Nat.le_refl _⟩))
          have rl91 : RWl V79 gB gr t0 := RWl.mv hlr (fun i9 hi9 c9 h1 h2 => me90.2.1 c9 i9 h1 h2 (by (first | exact om_59a77ef8aaca gd kdp rd rd2 hi9 | omega))) (fun j9 hj9 => ((up2_o hV79 (by decide)).trans ((up2_o hV75 (by decide)).trans (up2_o hV78 (by decide))))) (by rw [((up2_o hV79 (by decide)).trans ((up2_o hV75 (by decide)).trans (up2_o hV78 (by decide))))]; exact Int.le_refl _) ((up2_o hV79 (by decide)).trans ((up2_o hV75 (by decide)).trans (up2_o hV78 (by decide))))
          have pq92 : (V79 5 6).toInt = ((V 5 6)).toInt := congrArg Int32.toInt ((up2_o hV79 (by decide)).trans ((up2_o hV75 (by decide)).trans (up2_o hV78 (by decide))))
          have fo8 : FRc V79 gB gr.length (Froot2 lv mk (gm 0 8) (gm 0 9) 0) := by rw [gl9]; exact ⟨⟨by (first | exact om_36161e850215 gk wr83 | omega), by (first | exact om_6aa5e6f8c558 wr84 | omega)⟩, by (first | exact om_cd7d0a6a31bc q69 wr85 | omega), by (first | exact om_cd7d0a6a31bc q80 wr86 | omega), by (first | exact om_dda5088ca2d5 rh2 wr87 | omega), by (first | exact om_c30f8b808ce3 rh2 wr88 | omega), ⟨by (first | exact om_36161e850215 q83 wr89 | omega), by (first | exact om_c2909a41a82c  | omega)⟩⟩
          have rwx93 : RW V79 gB (gm, ga, Froot2 lv mk (gm 0 8) (gm 0 9) 0 :: gr) := RW.id rwq (ESw.ag (show agr [] [68, 81, 82] V V79 from (agr.up (agr.up (agr.up agr.rf hV78 rfl) hV75 rfl) hV79 rfl)) (by decide)) ((up2_o hV79 (by decide)).trans ((up2_o hV75 (by decide)).trans (up2_o hV78 (by decide)))) ((up2_o hV79 (by decide)).trans ((up2_o hV75 (by decide)).trans (up2_o hV78 (by decide)))) ((up2_o hV79 (by decide)).trans ((up2_o hV75 (by decide)).trans (up2_o hV78 (by decide)))) ((up2_o hV79 (by decide)).trans ((up2_o hV75 (by decide)).trans (up2_o hV78 (by decide)))) (show (V79 5 6).toInt = ((gr.length + 1 : Nat) : Int) from by (first | exact om_66365ac95418 kdp rd rd2 pq92 | omega)) (show (V79 5 7).toInt = ((t0 : Nat) : Int) from by rw [((up2_o hV79 (by decide)).trans ((up2_o hV75 (by decide)).trans (up2_o hV78 (by decide)))), rt9, tz9]) (RWl.push rl91 fo8 rfl (np9 rfl))
          refine lv_aload_n hx hb dX5_goOnGetting_84 rfl (lv_at hl 0 rfl) ?_
          refine lv_aload_n hx hb dX5_goOnGetting_85 rfl (lv_at hl 1 rfl) ?_
          have pq94 : (V79 67 gf).toInt = ((V 67 gf)).toInt := congrArg Int32.toInt ((up2_o hV79 (by decide)).trans ((up2_o hV75 (by decide)).trans (up2_o hV78 (by decide))))
          have pq95 : (V79 68 gf).toInt = 2 := (congrArg Int32.toInt (up2_s hV79)).trans (by decide)
          have me96 : ME V V79 gf := (ME.up (ME.up (ME.up ME.rf hV78 (Or.inl ⟨by decide, by decide, Nat.le_refl _⟩)) hV75 (Or.inl ⟨by decide, by decide, Nat.le_refl _⟩)) hV79 (Or.inl ⟨by decide, by decide, Nat.le_refl _⟩))
          have pq97 : (V79 70 gf).toInt = ((V 70 gf)).toInt := congrArg Int32.toInt ((up2_o hV79 (by decide)).trans ((up2_o hV75 (by decide)).trans (up2_o hV78 (by decide))))
          have pq98 : (V79 71 gf).toInt = ((V 71 gf)).toInt := congrArg Int32.toInt ((up2_o hV79 (by decide)).trans ((up2_o hV75 (by decide)).trans (up2_o hV78 (by decide))))
          have pq99 : (V79 75 gf).toInt = ((V 75 gf)).toInt := congrArg Int32.toInt ((up2_o hV79 (by decide)).trans ((up2_o hV75 (by decide)).trans (up2_o hV78 (by decide))))
          have pq100 : (V79 76 gf).toInt = ((V 76 gf)).toInt := congrArg Int32.toInt ((up2_o hV79 (by decide)).trans ((up2_o hV75 (by decide)).trans (up2_o hV78 (by decide))))
          have pq101 : (V79 80 gf).toInt = ((V 80 gf)).toInt := congrArg Int32.toInt ((up2_o hV79 (by decide)).trans ((up2_o hV75 (by decide)).trans (up2_o hV78 (by decide))))
          have pq102 : (V79 84 gf).toInt = ((V 84 gf)).toInt := congrArg Int32.toInt ((up2_o hV79 (by decide)).trans ((up2_o hV75 (by decide)).trans (up2_o hV78 (by decide))))
          have pq103 : (V79 5 8).toInt = ((V 5 8)).toInt := congrArg Int32.toInt ((up2_o hV79 (by decide)).trans ((up2_o hV75 (by decide)).trans (up2_o hV78 (by decide))))
          have pq104 : (V79 5 9).toInt = ((V 5 9)).toInt := congrArg Int32.toInt ((up2_o hV79 (by decide)).trans ((up2_o hV75 (by decide)).trans (up2_o hV78 (by decide))))
          have pq105 : (V79 3 13).toInt = ((V 3 13)).toInt := congrArg Int32.toInt ((up2_o hV79 (by decide)).trans ((up2_o hV75 (by decide)).trans (up2_o hV78 (by decide))))
          have pq106 : (V79 43 (5 * b + 2)).toInt = ((V 43 (5 * b + 2))).toInt := congrArg Int32.toInt ((up2_o hV79 (by decide)).trans ((up2_o hV75 (by decide)).trans (up2_o hV78 (by decide))))
          have pq107 : (V79 42 b).toInt = ((V 42 b)).toInt := congrArg Int32.toInt ((up2_o hV79 (by decide)).trans ((up2_o hV75 (by decide)).trans (up2_o hV78 (by decide))))
          have pq108 : (V79 41 b).toInt = ((V 41 b)).toInt := congrArg Int32.toInt ((up2_o hV79 (by decide)).trans ((up2_o hV75 (by decide)).trans (up2_o hV78 (by decide))))
          have mo109 : MO V79 Z b gf True True False := MO.ch mo me96 ((up2_o hV79 (by decide)).trans ((up2_o hV75 (by decide)).trans (up2_o hV78 (by decide)))) ((up2_o hV79 (by decide)).trans ((up2_o hV75 (by decide)).trans (up2_o hV78 (by decide)))) False.elim (fun x h => FK.k0 (by (first | exact om_36161e850215 gk wr83 | omega)) (by (first | exact om_bf9195679c8b fm q80 rh8 wr86 pq103 | omega)))
          have me110 : ME V V79 0 := (ME.up (ME.up (ME.up ME.rf hV78 (Or.inl ⟨by decide, by decide, by (first | exact om_c9a7d7f72290 gd r1 kdp rd rd2 sl9 pq92 | omega)⟩)) hV75 (Or.inl ⟨by decide, by decide, by (first | exact om_c9a7d7f72290 gd r1 kdp rd rd2 sl9 pq92 | omega)⟩)) hV79 (Or.inl ⟨by decide, by decide, by (first | exact om_c9a7d7f72290 gd r1 kdp rd rd2 sl9 pq92 | omega)⟩))
          have bc111 : BKc V79 b gB := BKc.be bc me110.1
          refine W.know (fun k113 k114 => ?_)
          obtain ⟨Hk112, hHk112⟩ : ∃ z, z = H := ⟨_, rfl⟩
          have k113 : Hk112.size ≤ s.heap.size + (zcc Z - zcc Z) := by rw [hHk112]; exact k113
          have k114 : tot Hk112 ≤ tot s.heap + (zss Z - zss Z) := by rw [hHk112]; exact k114
          refine gZ_void (gA_runV (As := [.ref (Z.fa gf)]) (rest := []) (ci := 5) (q0 := 5) hx hb hml hown hg hP hD hK hS hA hnw hgk (x_undoNext9 l D ks H.size ad kk V79 L Z (b) (gf) (gB) (gm) (ga) (gr) (lv) (mk) ((gm 0 8)) ((gm 0 9)) (0) hMV79 (show b < 2 from by (first | exact om_289974d36c9f hb2 mup | omega)) (show gf < Z.nf from by (first | exact om_d9a628b8387a hgf gd kdp rd rd2 pq92 | omega)) mo109 (show (gf : Int) + 1 = (V79 5 6).toInt from by (first | exact om_23ab2a0d3264 gd kdp rd rd2 pq92 | omega)) (show (V79 67 gf).toInt = 0 from by (first | exact om_36161e850215 gk wr83 | omega)) rwx93 bc111 (show (V79 5 6).toInt ≤ 395 from by (first | exact om_1150cee5daf6 gd r1 kdp rd rd2 sl9 pq92 | omega)) (show (V79 68 gf).toInt = 2 from by (first | exact om_6aa5e6f8c558 wr84 | omega))) w1316 w1318 w52 w171 w1319 rfl xgMachine hdV_yX5_undoNext ⟨Nat.le_of_ble_eq_true rfl, Nat.le_of_ble_eq_true rfl⟩ rfl hl.1 rfl (Nat.le_of_ble_eq_true rfl) dX5_goOnGetting_86 ⟨z1 zoZ.1, z1 zoZ.2.1⟩) hD hS hA (fun u116 H locs w117 hP hD hK hS y118 y119 => ?_)
          obtain ⟨V120, L121, Z122⟩ := u116
          obtain ⟨hMV120, ajV120, axL121, zlZ122, t124, t125⟩ := w117
          have axL121 : L = L121 := Eq.symm axL121
          subst axL121
          replace hP : va_P D vwCl (xw ad kk V120 L Z122) H := hP
          replace hD : va_D A (xw ad kk V120 L Z122) := hD
          replace hK : va_K D vwCl (xty kk Z122) s := hK
          replace hMV120 : rgd bX V120 := hMV120
          replace ajV120 : agr [(5, 6), (5, 8), (5, 9), (5, 11), (5, 12)] [67, 68, 69, 70, 71, 72, 73, 74, 75, 76, 77, 78, 79, 80, 81, 82, 83, 84, 85] V79 V120 := ajV120
          have agV120 : agr [(3, 13), (5, 6), (5, 8), (5, 9), (5, 10), (5, 11), (5, 12), (5, 13), (5, 14)] [25, 26, 27, 28, 30, 67, 68, 69, 70, 71, 72, 73, 74, 75, 76, 77, 78, 79, 80, 81, 82, 83, 84, 85] V V120 := agV79.tr ajV120 (by decide) (by decide)
          replace zlZ122 : ZL Z Z122 := zlZ122
          have zoZ122 : ZL Z Z122 := ZL.tr zoZ zlZ122
          have ziZ122 := zlZ122.1
          have zjZ122 := zlZ122.2.1
          have zkZ122 := zlZ122.2.2.1
          have zmZ122 := zoZ122.1
          have znZ122 := zoZ122.2.1
          have zpZ_Z122 := zoZ.1
          have zqZ_Z122 := zoZ.2.1
          have y118 : H.size ≤ Hk112.size + (zcc Z - zcc Z122) := by rw [hHk112]; exact y118
          have y119 : tot H ≤ tot Hk112 + (zss Z - zss Z122) := by rw [hHk112]; exact y119
          refine W.tight (k := zcc Z - zcc Z122) (n := zss Z - zss Z122) (by first | exact tg9 y118 k113 zlZ122.1 zoZ.1 | omega) (by first | exact tg9 y119 k114 zlZ122.2.1 zoZ.2.1 | omega) ?_
          have hl : lv_has ls 2 [(0, .ref (ad 5)), (1, .ref (Z122.fa gf))] := by rw [zlZ122.2.2.2.2 gf hgf]; exact hl
          replace t124 : MJ V120 Z122 b := t124
          replace t125 : RW V120 gB (undoM gm ga gr lv mk (gm 0 8) (gm 0 9) 0) := t125
          have rx126 : RW V120 gB (stM gB (gm, ga, gfr :: gr)) := by rw [hfe, st_1y (show gm 0 6 = 2 from by (first | exact om_147a8ac6eacb rh1 f70 | omega))]; exact t125
          refine W.know (fun kr1 kr2 => ?_)
          refine W.widen (k := zcc Z) (n := zss Z) (Nat.sub_le _ _) (Nat.sub_le _ _) ?_
          exact W.vret hx hb hr (fun t ht hW => ⟨⟨(V120, L, Z122), rfl, ⟨hMV120, agV120, rfl, zoZ122, t124, rx126⟩, ⟨by rw [ht]; exact hP, va_K.moved hW.alike hK, hD⟩, by rw [ht]; exact kr1, by rw [ht]; exact kr2⟩, hS.F ht⟩) hS.2.2 dX5_goOnGetting_89
        · skip
          have f127 : ((V 5 9)).toInt ≠ 2 := b_neq rfl (by decide) c69
          refine lv_aload_n hx hb dX5_goOnGetting_45 rfl (lv_at hl 0 rfl) ?_
          refine lv_aload_n hx hb dX5_goOnGetting_46 rfl (lv_at hl 1 rfl) ?_
          refine va_getN (D := D) (ci := 4) (v := .int (V 80 gf)) (fs := (xfFrame V gf)) (C := RX4) (T := TX4) (N := 19) hx hb hg inX4 hown hK hP (336 + gf) (xgFrame hgf) rfl 13 (by decide) (hnw.use 1202 n1202 rfl) (fun _ h9 => h9) rfl dX5_goOnGetting_47 ?_
          refine va_put (D := D) (ci := 5) (v := .int (V 80 gf)) (ty := tyX5 8) (fs := (xfMachine ad V L Z)) (C := RX5) (T := TX5) (N := 15) hx hb hg inX5 tyX5 tyX5_ok nmX5 hown hK hP hD hS 5 xgMachine rfl 8 (by decide) (hg _ w675) (fun _ h9 => h9) rfl (tyX5_ok 8 (by decide)) rfl rfl (Nat.le_of_ble_eq_true rfl) dX5_goOnGetting_50 (fun H locs hP hD hS => ?_)
          obtain ⟨V128, hV128⟩ : ∃ z, z = up2 V 5 8 (V 80 gf) := ⟨_, rfl⟩
          have ew129 : (xw ad kk V L Z).set 5 ((ad 5), .inr (5, (xfMachine ad V L Z).set 8 (.int (V 80 gf)))) = xw ad kk V128 L Z := by rw [hV128]; exact xw_ss (by decide) rfl (xb_si (by decide))
          have hP : va_P D vwCl (xw ad kk V128 L Z) H := by rw [← ew129]; exact hP
          have hD : va_D A (xw ad kk V128 L Z) := by rw [← ew129]; exact hD
          have hMV128 : rgd bX V128 := hMV.put hV128 (show 0 ≤ ((V 80 gf)).toInt ∧ ((V 80 gf)).toInt ≤ 300 from by (first | exact om_27ada8a9375b r4 q80 | omega))
          have agV128 : agr [(3, 13), (5, 6), (5, 8), (5, 9), (5, 10), (5, 11), (5, 12), (5, 13), (5, 14)] [25, 26, 27, 28, 30, 67, 68, 69, 70, 71, 72, 73, 74, 75, 76, 77, 78, 79, 80, 81, 82, 83, 84, 85] V V128 := agV.up hV128 rfl
          have mo1 : MO V128 Z b gf True True (QN V b) := MO.mcnt mo (by (first | exact om_b66ba74381d5 gk | omega)) hV128 (by (first | exact om_5977f3d8a10f  | omega)) (by (first | exact om_5b24512c2520 fm q80 rh8 | omega)) (by (first | exact om_47017e6989ca r4 q80 | omega)) Or.inl
          refine lv_aload_n hx hb dX5_goOnGetting_53 rfl (lv_at hl 0 rfl) ?_
          have pq130 : (V128 5 6).toInt = ((V 5 6)).toInt := congrArg Int32.toInt (up2_k hV128 (by decide))
          refine gA_void (gA_runV (As := []) (rest := []) (ci := 5) (q0 := 5) hx hb hml hown hg hP hD hK hS hA hnw hgk (x_leave9 l D ks H.size ad kk V128 L Z  hMV128 (show 1 ≤ (V128 5 6).toInt from by (first | exact om_1c7ca45de7b6 gd r1 kdp rd rd2 sl9 pq130 | omega))) w1308 w1310 w50 w171 w1311 rfl xgMachine hdV_yX5_leave ⟨Nat.le_of_ble_eq_true rfl, Nat.le_of_ble_eq_true rfl⟩ rfl hl.1 rfl (Nat.le_of_ble_eq_true rfl) dX5_goOnGetting_54 ⟨z0, z0⟩) hP hD hK hS hA (fun u132 H locs w133 hP hD hK hS => ?_)
          obtain ⟨V136, L137⟩ := u132
          obtain ⟨hMV136, ajV136, axL137, t134, t135⟩ := w133
          have axL137 : L = L137 := Eq.symm axL137
          subst axL137
          replace hP : va_P D vwCl (xw ad kk V136 L Z) H := hP
          replace hD : va_D A (xw ad kk V136 L Z) := hD
          replace hMV136 : rgd bX V136 := hMV136
          replace ajV136 : agr [(5, 6)] [] V128 V136 := ajV136
          have agV136 : agr [(3, 13), (5, 6), (5, 8), (5, 9), (5, 10), (5, 11), (5, 12), (5, 13), (5, 14)] [25, 26, 27, 28, 30, 67, 68, 69, 70, 71, 72, 73, 74, 75, 76, 77, 78, 79, 80, 81, 82, 83, 84, 85] V V136 := agV128.tr ajV136 (by decide) (by decide)
          replace t134 : (V136 5 6).toInt = (V128 5 6).toInt - 1 := t134
          replace t135 : ((True) ∧ V136 = (up2 V128 5 6 (V128 5 6 - 1))) := t135
          have r138 : 0 ≤ ((V136 5 6)).toInt ∧ ((V136 5 6)).toInt ≤ 400 := hMV136 5 6
          have hw139 := t135.2
          obtain ⟨z140, ez140⟩ : ∃ y : Int32, y = V128 5 6 - 1 := ⟨_, rfl⟩
          have hz140 : z140.toInt = (V128 5 6).toInt - 1 := i_sub ez140 rfl (by decide) (by (first | exact om_b7c63862419e gd r1 kdp rd rd2 sl9 pq130 t134 | omega))
          have hV136 : V136 = up2 V128 5 6 z140 := by rw [hw139, ez140]
          have me141 : ME V128 V136 gf := (ME.up ME.rf hV136 (Or.inr (by (first | exact om_f481bd0f1cda  | omega))))
          have pq142 : (V136 67 gf).toInt = ((V 67 gf)).toInt := congrArg Int32.toInt ((up2_o hV136 (by decide)).trans (up2_o hV128 (by decide)))
          have pq143 : (V136 68 gf).toInt = ((V 68 gf)).toInt := congrArg Int32.toInt ((up2_o hV136 (by decide)).trans (up2_o hV128 (by decide)))
          have pq144 : (V136 70 gf).toInt = ((V 70 gf)).toInt := congrArg Int32.toInt ((up2_o hV136 (by decide)).trans (up2_o hV128 (by decide)))
          have pq145 : (V136 71 gf).toInt = ((V 71 gf)).toInt := congrArg Int32.toInt ((up2_o hV136 (by decide)).trans (up2_o hV128 (by decide)))
          have pq146 : (V136 75 gf).toInt = ((V 75 gf)).toInt := congrArg Int32.toInt ((up2_o hV136 (by decide)).trans (up2_o hV128 (by decide)))
          have pq147 : (V136 76 gf).toInt = ((V 76 gf)).toInt := congrArg Int32.toInt ((up2_o hV136 (by decide)).trans (up2_o hV128 (by decide)))
          have pq148 : (V136 80 gf).toInt = ((V 80 gf)).toInt := congrArg Int32.toInt ((up2_o hV136 (by decide)).trans (up2_o hV128 (by decide)))
          have pq149 : (V136 84 gf).toInt = ((V 84 gf)).toInt := congrArg Int32.toInt ((up2_o hV136 (by decide)).trans (up2_o hV128 (by decide)))
          have pq150 : (V136 5 6).toInt = z140.toInt := congrArg Int32.toInt (up2_s hV136)
          have pq151 : (V136 5 8).toInt = ((V 80 gf)).toInt := congrArg Int32.toInt ((up2_k hV136 (by decide)).trans (up2_s hV128))
          have pq152 : (V136 5 9).toInt = ((V 5 9)).toInt := congrArg Int32.toInt ((up2_k hV136 (by decide)).trans (up2_k hV128 (by decide)))
          have pq153 : (V136 3 13).toInt = ((V 3 13)).toInt := congrArg Int32.toInt ((up2_o hV136 (by decide)).trans (up2_o hV128 (by decide)))
          have pq154 : (V136 43 (5 * b + 2)).toInt = ((V 43 (5 * b + 2))).toInt := congrArg Int32.toInt ((up2_o hV136 (by decide)).trans (up2_o hV128 (by decide)))
          have pq155 : (V136 42 b).toInt = ((V 42 b)).toInt := congrArg Int32.toInt ((up2_o hV136 (by decide)).trans (up2_o hV128 (by decide)))
          have pq156 : (V136 41 b).toInt = ((V 41 b)).toInt := congrArg Int32.toInt ((up2_o hV136 (by decide)).trans (up2_o hV128 (by decide)))
          have me157 : ME V128 V136 gf := (ME.up ME.rf hV136 (Or.inr (by (first | exact om_f481bd0f1cda  | omega))))
          have rp158 : MJ V136 Z b := MP.lv (MO.mp mo1) me141 (by (first | exact om_0e41a66fda65 gd kdp rd rd2 pq130 t134 | omega)) (fun z => Or.inr (QN.eq ((up2_k hV136 (by (first | exact om_0dc68b28bec6  | omega))).trans (up2_k hV128 (by (first | exact om_ba78eb10f70f  | omega)))) ((up2_k hV136 (by (first | exact om_24c8f250132c  | omega))).trans (up2_k hV128 (by (first | exact om_9912ef473371  | omega)))) ((up2_o hV136 (by decide)).trans (up2_o hV128 (by decide))) (fun k => ((up2_o hV136 (by decide)).trans (up2_o hV128 (by decide)))) (fun c k a1 a2 => (me157.1 c k a1 a2).trans (up2_o hV128 (by (first | exact om_2ce3b046d7f6 a1 a2 | omega)))) z))
          have rl160 : RWl V136 gB gr t0 := RWl.mv hlr (fun i9 hi9 c9 h1 h2 => ((show V136 c9 i9 = V128 c9 i9 from by rw [hV136]; exact up2_pl (by (first | exact om_c121684742cf h1 h2 | omega))).trans (show V128 c9 i9 = V c9 i9 from by rw [hV128]; exact up2_pl (by (first | exact om_ee77f77fb9b2 h1 h2 | omega))))) (fun j9 hj9 => ((up2_o hV136 (by decide)).trans (up2_o hV128 (by decide)))) (by rw [((up2_o hV136 (by decide)).trans (up2_o hV128 (by decide)))]; exact Int.le_refl _) ((up2_o hV136 (by decide)).trans (up2_o hV128 (by decide)))
          have pq161 : (V136 5 7).toInt = ((V 5 7)).toInt := congrArg Int32.toInt ((up2_k hV136 (by decide)).trans (up2_k hV128 (by decide)))
          have r162 : 0 ≤ ((V 5 7)).toInt ∧ ((V 5 7)).toInt ≤ 2048 := hMV 5 7
          have rn6 : RWn V136 ow gB (mU gm 0 4 mk) := RWn.mv rn (fun j9 hj9 => by rw [mU_o _ _ (by (first | exact om_ed99846b0411 hj9 | omega))]) (fun x9 j9 hx9 _ => by rw [mU_o _ _ (by omega)]) (fun k9 => ((up2_o hV136 (by decide)).trans (up2_o hV128 (by decide)))) ((up2_o hV136 (by decide)).trans (up2_o hV128 (by decide))) ((up2_k hV136 (by decide)).trans (up2_k hV128 (by decide))) ((up2_k hV136 (by decide)).trans (up2_k hV128 (by decide))) (fun c9 k9 h1 h2 h3 => ((show V136 c9 k9 = V128 c9 k9 from by rw [hV136]; exact up2_pl (by (first | exact om_aff87a4afb5a h1 h2 | omega))).trans (show V128 c9 k9 = V c9 k9 from by rw [hV128]; exact up2_pl (by (first | exact om_bff4fa546450 h1 h2 | omega)))))
          have rz9 : RW V136 gB ((mU gm 0 4 mk), ga, gr) := ⟨⟨ow, rn6⟩, ⟨(by show _ = (mU gm 0 4 mk) 0 6; rw [mU_o _ _ (by (first | exact om_231db80b6c16  | omega)), ((up2_k hV136 (by decide)).trans (up2_k hV128 (by decide)))]; exact rh.1), (fun h9 => by have h8 : (mU gm 0 4 mk) 0 6 = 1 := h9; rw [mU_o _ _ (by (first | exact om_231db80b6c16  | omega))] at h8; rw [((up2_k hV136 (by decide)).trans (up2_k hV128 (by decide)))]; exact rh.2.1 h8), (fun h9 => by have h8 : (mU gm 0 4 mk) 0 6 = 2 := h9; rw [mU_o _ _ (by (first | exact om_231db80b6c16  | omega))] at h8; exfalso; (first | exact om_d29324761964 rh1 f127 pq152 h8 | omega)), (by show _ = (mU gm 0 4 mk) 0 4; rw [mU_s]; (first | exact om_25a0d8f2ad9d q80 pq148 pq151 | omega)), fun i9 hi9 => by have h8 : (i9 : Int) < (mU gm 0 4 mk) 0 4 := hi9; rw [mU_s] at h8; show _ = (mU gm 0 4 mk) 5 i9; rw [mU_o _ _ (by (first | exact om_ec5f1df5f9c8  | omega)), ((up2_o hV136 (by decide)).trans (up2_o hV128 (by decide)))]; exact rh.2.2.2.2 i9 (by (first | exact om_b03c5aa9e22e fm q80 rh8 pq148 pq151 h8 | omega))⟩, (show (V136 5 6).toInt = ((gr.length : Nat) : Int) from by (first | exact om_0893762427d8 kdp rd rd2 pq130 t134 | omega)), t0, (show (V136 5 7).toInt = ((t0 : Nat) : Int) from by rw [((up2_k hV136 (by decide)).trans (up2_k hV128 (by decide))), rt9, tz9]), rl160⟩
          have rx159 : RW V136 gB (stM gB (gm, ga, gfr :: gr)) := by rw [hfe, st_1n (by rw [← rh1]; (first | exact om_d0a5802f4b36 rh1 f127 pq152 | omega))]; exact rz9
          refine W.know (fun kr1 kr2 => ?_)
          refine W.widen (k := zcc Z) (n := zss Z) (Nat.sub_le _ _) (Nat.sub_le _ _) ?_
          exact W.vret hx hb hr (fun t ht hW => ⟨⟨(V136, L, Z), rfl, ⟨hMV136, agV136, rfl, zoZ, rp158, rx159⟩, ⟨by rw [ht]; exact hP, va_K.moved hW.alike hK, hD⟩, by rw [ht]; exact kr1, by rw [ht]; exact kr2⟩, hS.F ht⟩) hS.2.2 dX5_goOnGetting_57
    · skip
      have f163 : ((V 68 gf)).toInt = 0 := b_eq rfl (by decide) c64
      exfalso; (first | exact om_495ee03a60ae k68 f163 | omega)
  · skip
    have hf : FRc V gB gf (Froot2 lv mk nd fl sp) := by rw [← hfe]; exact hf0
    have tl8 : tw9 = t0 + (Froot2 lv mk nd fl sp : Fr).2.2.2.length := by rw [← hfe]; exact tl9
    obtain ⟨⟨k67, k68⟩, q69, q80, q81, q82, q83, z83⟩ := hf
    have tz9 : tw9 = t0 := tl8
    have rh8 : (V 5 8).toInt = gm 0 4 := rh.2.2.2.1
    have mk9 : (V 80 gf).toInt ≤ (V 5 8).toInt := fk.2.2.2.2.2.2.1 (by (first | exact om_b66ba74381d5 gk | omega))
    refine lv_aload_n hx hb dX5_goOnGetting_0 rfl (lv_at hl 1 rfl) ?_
    refine va_getN (D := D) (ci := 4) (v := .int (V 68 gf)) (fs := (xfFrame V gf)) (C := RX4) (T := TX4) (N := 19) hx hb hg inX4 hown hK hP (336 + gf) (xgFrame hgf) rfl 1 (by decide) (hnw.use 1190 n1190 rfl) (fun _ h9 => h9) rfl dX5_goOnGetting_1 ?_
    refine lv_if_ne (tgt := 29) hx hb dX5_goOnGetting_4 (by decide) (fun c164 => ?_) (fun c164 => ?_)
    · skip
      have f165 : ((V 68 gf)).toInt ≠ 0 := b_neq rfl (by decide) c164
      refine lv_aload_n hx hb dX5_goOnGetting_29 rfl (lv_at hl 1 rfl) ?_
      refine va_getN (D := D) (ci := 4) (v := .int (V 68 gf)) (fs := (xfFrame V gf)) (C := RX4) (T := TX4) (N := 19) hx hb hg inX4 hown hK hP (336 + gf) (xgFrame hgf) rfl 1 (by decide) (hnw.use 1190 n1190 rfl) (fun _ h9 => h9) rfl dX5_goOnGetting_30 ?_
      refine lv_iconst (v := 1) hx hb dX5_goOnGetting_33 (by decide) ?_
      refine lv_icmp_ne (tgt := 71) hx hb dX5_goOnGetting_34 (by decide) (fun c166 => ?_) (fun c166 => ?_)
      · skip
        have f167 : ((V 68 gf)).toInt ≠ 1 := b_neq rfl (by decide) c166
        refine lv_aload_n hx hb dX5_goOnGetting_71 rfl (lv_at hl 0 rfl) ?_
        refine va_get (D := D) (ci := 5) (v := .int (V 5 9)) (fs := (xfMachine ad V L Z)) (C := RX5) (T := TX5) (N := 15) hx hb hg inX5 hown hK hP 5 xgMachine rfl 9 (by decide) (hg _ w676) (fun _ h9 => h9) rfl dX5_goOnGetting_72 ?_
        refine lv_iconst (v := 3) hx hb dX5_goOnGetting_75 (by decide) ?_
        refine lv_icmp_ne (tgt := 84) hx hb dX5_goOnGetting_76 (by decide) (fun c168 => ?_) (fun c168 => ?_)
        · skip
          have f169 : ((V 5 9)).toInt ≠ 3 := b_neq rfl (by decide) c168
          have if9 : (if gm 0 6 = 3 then 1 else sp) = sp := if_neg (by (first | exact om_c091dfac715e rh1 f169 | omega))
          have wr170 : (V 3 13).toInt = (V 3 13).toInt := congrArg Int32.toInt (Eq.refl (V 3 13))
          have wr171 : (V 3 12).toInt = (V 3 12).toInt := congrArg Int32.toInt (Eq.refl (V 3 12))
          have wr172 : (V 67 gf).toInt = ((V 67 gf)).toInt := (congrArg Int32.toInt rfl)
          have wr173 : (V 68 gf).toInt = ((V 68 gf)).toInt := (congrArg Int32.toInt rfl)
          have wr174 : (V 69 gf).toInt = ((V 69 gf)).toInt := (congrArg Int32.toInt rfl)
          have wr175 : (V 80 gf).toInt = ((V 80 gf)).toInt := (congrArg Int32.toInt rfl)
          have wr176 : (V 81 gf).toInt = ((V 81 gf)).toInt := (congrArg Int32.toInt rfl)
          have wr177 : (V 82 gf).toInt = ((V 82 gf)).toInt := (congrArg Int32.toInt rfl)
          have wr178 : (V 83 gf).toInt = ((V 83 gf)).toInt := (congrArg Int32.toInt rfl)
          have me179 : ME V V gf := ME.rf
          have rl180 : RWl V gB gr t0 := RWl.mv hlr (fun i9 hi9 c9 h1 h2 => me179.2.1 c9 i9 h1 h2 (by (first | exact om_59a77ef8aaca gd kdp rd rd2 hi9 | omega))) (fun j9 hj9 => (Eq.refl (V 39 j9))) (by rw [(Eq.refl (V 3 13))]; exact Int.le_refl _) (Eq.refl (V 3 12))
          have fo8 : FRc V gB gr.length (Froot2 lv mk nd fl (if gm 0 6 = 3 then 1 else sp)) := by rw [gl9]; exact ⟨⟨by (first | exact om_b66ba74381d5 gk | omega), by (first | exact om_6aa5e6f8c558 k68 | omega)⟩, by (first | exact om_570b691c1130 q69 | omega), by (first | exact om_570b691c1130 q80 | omega), by (first | exact om_570b691c1130 q81 | omega), by (first | exact om_570b691c1130 q82 | omega), ⟨by rw [if9]; omega, by rw [if9]; omega⟩⟩
          have rwx181 : RW V gB (gm, ga, Froot2 lv mk nd fl (if gm 0 6 = 3 then 1 else sp) :: gr) := RW.id rwq ESw.rf (Eq.refl (V 5 9)) (Eq.refl (V 5 10)) (Eq.refl (V 5 11)) (Eq.refl (V 5 12)) (show (V 5 6).toInt = ((gr.length + 1 : Nat) : Int) from by (first | exact om_9af2708b25a3 kdp rd rd2 | omega)) (show (V 5 7).toInt = ((t0 : Nat) : Int) from by rw [(Eq.refl (V 5 7)), rt9, tz9]) (RWl.push rl180 fo8 rfl (np9 rfl))
          refine lv_aload_n hx hb dX5_goOnGetting_84 rfl (lv_at hl 0 rfl) ?_
          refine lv_aload_n hx hb dX5_goOnGetting_85 rfl (lv_at hl 1 rfl) ?_
          have me182 : ME V V gf := ME.rf
          have mo183 : MO V Z b gf True True False := MO.ch mo me182 rfl rfl False.elim (fun x h => FK.k0 (by (first | exact om_b66ba74381d5 gk | omega)) (by (first | exact om_5b24512c2520 fm q80 rh8 | omega)))
          refine W.know (fun k185 k186 => ?_)
          obtain ⟨Hk184, hHk184⟩ : ∃ z, z = H := ⟨_, rfl⟩
          have k185 : Hk184.size ≤ s.heap.size + (zcc Z - zcc Z) := by rw [hHk184]; exact k185
          have k186 : tot Hk184 ≤ tot s.heap + (zss Z - zss Z) := by rw [hHk184]; exact k186
          refine gZ_void (gA_runV (As := [.ref (Z.fa gf)]) (rest := []) (ci := 5) (q0 := 5) hx hb hml hown hg hP hD hK hS hA hnw hgk (x_undoNext9 l D ks H.size ad kk V L Z (b) (gf) (gB) (gm) (ga) (gr) (lv) (mk) (nd) (fl) ((if gm 0 6 = 3 then 1 else sp)) hMV (show b < 2 from by (first | exact om_289974d36c9f hb2 mup | omega)) (show gf < Z.nf from by (first | exact om_725d0642dd96 hgf gd kdp rd rd2 | omega)) mo183 (show (gf : Int) + 1 = (V 5 6).toInt from by (first | exact om_d5747674bc98 gd | omega)) (show (V 67 gf).toInt = 0 from by (first | exact om_b66ba74381d5 gk | omega)) rwx181 bc (show (V 5 6).toInt ≤ 395 from by (first | exact om_1c37055e4d93 gd r1 kdp rd rd2 sl9 | omega)) (show (V 68 gf).toInt = 2 from by (first | exact om_6aa5e6f8c558 k68 | omega))) w1316 w1318 w52 w171 w1319 rfl xgMachine hdV_yX5_undoNext ⟨Nat.le_of_ble_eq_true rfl, Nat.le_of_ble_eq_true rfl⟩ rfl hl.1 rfl (Nat.le_of_ble_eq_true rfl) dX5_goOnGetting_86 ⟨z1 zoZ.1, z1 zoZ.2.1⟩) hD hS hA (fun u188 H locs w189 hP hD hK hS y190 y191 => ?_)
          obtain ⟨V192, L193, Z194⟩ := u188
          obtain ⟨hMV192, ajV192, axL193, zlZ194, t196, t197⟩ := w189
          have axL193 : L = L193 := Eq.symm axL193
          subst axL193
          replace hP : va_P D vwCl (xw ad kk V192 L Z194) H := hP
          replace hD : va_D A (xw ad kk V192 L Z194) := hD
          replace hK : va_K D vwCl (xty kk Z194) s := hK
          replace hMV192 : rgd bX V192 := hMV192
          replace ajV192 : agr [(5, 6), (5, 8), (5, 9), (5, 11), (5, 12)] [67, 68, 69, 70, 71, 72, 73, 74, 75, 76, 77, 78, 79, 80, 81, 82, 83, 84, 85] V V192 := ajV192
          have agV192 : agr [(3, 13), (5, 6), (5, 8), (5, 9), (5, 10), (5, 11), (5, 12), (5, 13), (5, 14)] [25, 26, 27, 28, 30, 67, 68, 69, 70, 71, 72, 73, 74, 75, 76, 77, 78, 79, 80, 81, 82, 83, 84, 85] V V192 := agV.tr ajV192 (by decide) (by decide)
          replace zlZ194 : ZL Z Z194 := zlZ194
          have zoZ194 : ZL Z Z194 := ZL.tr zoZ zlZ194
          have ziZ194 := zlZ194.1
          have zjZ194 := zlZ194.2.1
          have zkZ194 := zlZ194.2.2.1
          have zmZ194 := zoZ194.1
          have znZ194 := zoZ194.2.1
          have zpZ_Z194 := zoZ.1
          have zqZ_Z194 := zoZ.2.1
          have y190 : H.size ≤ Hk184.size + (zcc Z - zcc Z194) := by rw [hHk184]; exact y190
          have y191 : tot H ≤ tot Hk184 + (zss Z - zss Z194) := by rw [hHk184]; exact y191
          refine W.tight (k := zcc Z - zcc Z194) (n := zss Z - zss Z194) (by first | exact tg9 y190 k185 zlZ194.1 zoZ.1 | omega) (by first | exact tg9 y191 k186 zlZ194.2.1 zoZ.2.1 | omega) ?_
          have hl : lv_has ls 2 [(0, .ref (ad 5)), (1, .ref (Z194.fa gf))] := by rw [zlZ194.2.2.2.2 gf hgf]; exact hl
          replace t196 : MJ V192 Z194 b := t196
          replace t197 : RW V192 gB (undoM gm ga gr lv mk nd fl (if gm 0 6 = 3 then 1 else sp)) := t197
          have rx198 : RW V192 gB (stM gB (gm, ga, gfr :: gr)) := by rw [hfe, st_2]; exact t197
          refine W.know (fun kr1 kr2 => ?_)
          refine W.widen (k := zcc Z) (n := zss Z) (Nat.sub_le _ _) (Nat.sub_le _ _) ?_
          exact W.vret hx hb hr (fun t ht hW => ⟨⟨(V192, L, Z194), rfl, ⟨hMV192, agV192, rfl, zoZ194, t196, rx198⟩, ⟨by rw [ht]; exact hP, va_K.moved hW.alike hK, hD⟩, by rw [ht]; exact kr1, by rw [ht]; exact kr2⟩, hS.F ht⟩) hS.2.2 dX5_goOnGetting_89
        · skip
          have f199 : ((V 5 9)).toInt = 3 := b_eq rfl (by decide) c168
          refine lv_aload_n hx hb dX5_goOnGetting_79 rfl (lv_at hl 1 rfl) ?_
          refine lv_iconst (v := 1) hx hb dX5_goOnGetting_80 (by decide) ?_
          refine va_putN (D := D) (ci := 4) (v := .int 1) (ty := tyX4 16) (fs := (xfFrame V gf)) (C := RX4) (T := TX4) (N := 19) hx hb hg inX4 tyX4 tyX4_ok nmX4 hown hK hP hD hS (336 + gf) (xgFrame hgf) rfl 16 (by decide) (hnw.use 1205 n1205 rfl) (fun _ h9 => h9) rfl (tyX4_ok 16 (by decide)) rfl rfl (Nat.le_of_ble_eq_true rfl) dX5_goOnGetting_81 (fun H locs hP hD hS => ?_)
          obtain ⟨V200, hV200⟩ : ∃ z, z = up2 V 83 gf 1 := ⟨_, rfl⟩
          have ew201 : (xw ad kk V L Z).set (336 + gf) ((Z.fa gf), .inr (4, (xfFrame V gf).set 16 (.int 1))) = xw ad kk V200 L Z := by rw [hV200]; exact xpFrame_spent hgf
          have hP : va_P D vwCl (xw ad kk V200 L Z) H := by rw [← ew201]; exact hP
          have hD : va_D A (xw ad kk V200 L Z) := by rw [← ew201]; exact hD
          have hMV200 : rgd bX V200 := hMV.put hV200 (show 0 ≤ Int32.toInt 1 ∧ Int32.toInt 1 ≤ 1 from by decide)
          have agV200 : agr [(3, 13), (5, 6), (5, 8), (5, 9), (5, 10), (5, 11), (5, 12), (5, 13), (5, 14)] [25, 26, 27, 28, 30, 67, 68, 69, 70, 71, 72, 73, 74, 75, 76, 77, 78, 79, 80, 81, 82, 83, 84, 85] V V200 := agV.up hV200 rfl
          have if9 : (if gm 0 6 = 3 then 1 else sp) = 1 := if_pos (by (first | exact om_04b4189e366c rh1 f199 | omega))
          have wr202 : (V200 3 13).toInt = (V 3 13).toInt := congrArg Int32.toInt (up2_o hV200 (by decide))
          have wr203 : (V200 3 12).toInt = (V 3 12).toInt := congrArg Int32.toInt (up2_o hV200 (by decide))
          have wr204 : (V200 67 gf).toInt = ((V 67 gf)).toInt := (congrArg Int32.toInt (up2_o hV200 (by decide)))
          have wr205 : (V200 68 gf).toInt = ((V 68 gf)).toInt := (congrArg Int32.toInt (up2_o hV200 (by decide)))
          have wr206 : (V200 69 gf).toInt = ((V 69 gf)).toInt := (congrArg Int32.toInt (up2_o hV200 (by decide)))
          have wr207 : (V200 80 gf).toInt = ((V 80 gf)).toInt := (congrArg Int32.toInt (up2_o hV200 (by decide)))
          have wr208 : (V200 81 gf).toInt = ((V 81 gf)).toInt := (congrArg Int32.toInt (up2_o hV200 (by decide)))
          have wr209 : (V200 82 gf).toInt = ((V 82 gf)).toInt := (congrArg Int32.toInt (up2_o hV200 (by decide)))
          have wr210 : (V200 83 gf).toInt = 1 := (congrArg Int32.toInt (up2_s hV200)).trans (by decide)
          have me211 : ME V V200 gf := (ME.up ME.rf hV200 (Or.inl ⟨by decide, by decide, Nat.le_refl _⟩))
          have rl212 : RWl V200 gB gr t0 := RWl.mv hlr (fun i9 hi9 c9 h1 h2 => me211.2.1 c9 i9 h1 h2 (by (first | exact om_59a77ef8aaca gd kdp rd rd2 hi9 | omega))) (fun j9 hj9 => (up2_o hV200 (by decide))) (by rw [(up2_o hV200 (by decide))]; exact Int.le_refl _) (up2_o hV200 (by decide))
          have pq213 : (V200 5 6).toInt = ((V 5 6)).toInt := congrArg Int32.toInt (up2_o hV200 (by decide))
          have fo8 : FRc V200 gB gr.length (Froot2 lv mk nd fl (if gm 0 6 = 3 then 1 else sp)) := by rw [gl9]; exact ⟨⟨by (first | exact om_36161e850215 gk wr204 | omega), by (first | exact om_cb23ae8fe0b3 k68 wr205 | omega)⟩, by (first | exact om_cd7d0a6a31bc q69 wr206 | omega), by (first | exact om_cd7d0a6a31bc q80 wr207 | omega), by (first | exact om_cd7d0a6a31bc q81 wr208 | omega), by (first | exact om_cd7d0a6a31bc q82 wr209 | omega), ⟨by rw [if9]; (first | exact om_710535a98d88 wr210 | omega), by rw [if9]; (first | exact om_9e397f2d1d0c  | omega)⟩⟩
          have rwx214 : RW V200 gB (gm, ga, Froot2 lv mk nd fl (if gm 0 6 = 3 then 1 else sp) :: gr) := RW.id rwq (ESw.ag (show agr [] [83] V V200 from (agr.up agr.rf hV200 rfl)) (by decide)) (up2_o hV200 (by decide)) (up2_o hV200 (by decide)) (up2_o hV200 (by decide)) (up2_o hV200 (by decide)) (show (V200 5 6).toInt = ((gr.length + 1 : Nat) : Int) from by (first | exact om_66365ac95418 kdp rd rd2 pq213 | omega)) (show (V200 5 7).toInt = ((t0 : Nat) : Int) from by rw [(up2_o hV200 (by decide)), rt9, tz9]) (RWl.push rl212 fo8 rfl (np9 rfl))
          refine lv_aload_n hx hb dX5_goOnGetting_84 rfl (lv_at hl 0 rfl) ?_
          refine lv_aload_n hx hb dX5_goOnGetting_85 rfl (lv_at hl 1 rfl) ?_
          have pq215 : (V200 67 gf).toInt = ((V 67 gf)).toInt := congrArg Int32.toInt (up2_o hV200 (by decide))
          have pq216 : (V200 68 gf).toInt = ((V 68 gf)).toInt := congrArg Int32.toInt (up2_o hV200 (by decide))
          have me217 : ME V V200 gf := (ME.up ME.rf hV200 (Or.inl ⟨by decide, by decide, Nat.le_refl _⟩))
          have pq218 : (V200 70 gf).toInt = ((V 70 gf)).toInt := congrArg Int32.toInt (up2_o hV200 (by decide))
          have pq219 : (V200 71 gf).toInt = ((V 71 gf)).toInt := congrArg Int32.toInt (up2_o hV200 (by decide))
          have pq220 : (V200 75 gf).toInt = ((V 75 gf)).toInt := congrArg Int32.toInt (up2_o hV200 (by decide))
          have pq221 : (V200 76 gf).toInt = ((V 76 gf)).toInt := congrArg Int32.toInt (up2_o hV200 (by decide))
          have pq222 : (V200 80 gf).toInt = ((V 80 gf)).toInt := congrArg Int32.toInt (up2_o hV200 (by decide))
          have pq223 : (V200 84 gf).toInt = ((V 84 gf)).toInt := congrArg Int32.toInt (up2_o hV200 (by decide))
          have pq224 : (V200 5 8).toInt = ((V 5 8)).toInt := congrArg Int32.toInt (up2_o hV200 (by decide))
          have pq225 : (V200 5 9).toInt = ((V 5 9)).toInt := congrArg Int32.toInt (up2_o hV200 (by decide))
          have pq226 : (V200 3 13).toInt = ((V 3 13)).toInt := congrArg Int32.toInt (up2_o hV200 (by decide))
          have pq227 : (V200 43 (5 * b + 2)).toInt = ((V 43 (5 * b + 2))).toInt := congrArg Int32.toInt (up2_o hV200 (by decide))
          have pq228 : (V200 42 b).toInt = ((V 42 b)).toInt := congrArg Int32.toInt (up2_o hV200 (by decide))
          have pq229 : (V200 41 b).toInt = ((V 41 b)).toInt := congrArg Int32.toInt (up2_o hV200 (by decide))
          have mo230 : MO V200 Z b gf True True False := MO.ch mo me217 (up2_o hV200 (by decide)) (up2_o hV200 (by decide)) False.elim (fun x h => FK.k0 (by (first | exact om_36161e850215 gk wr204 | omega)) (by (first | exact om_bf9195679c8b fm q80 rh8 wr207 pq224 | omega)))
          have me231 : ME V V200 0 := (ME.up ME.rf hV200 (Or.inl ⟨by decide, by decide, by (first | exact om_c9a7d7f72290 gd r1 kdp rd rd2 sl9 pq213 | omega)⟩))
          have bc232 : BKc V200 b gB := BKc.be bc me231.1
          refine W.know (fun k234 k235 => ?_)
          obtain ⟨Hk233, hHk233⟩ : ∃ z, z = H := ⟨_, rfl⟩
          have k234 : Hk233.size ≤ s.heap.size + (zcc Z - zcc Z) := by rw [hHk233]; exact k234
          have k235 : tot Hk233 ≤ tot s.heap + (zss Z - zss Z) := by rw [hHk233]; exact k235
          refine gZ_void (gA_runV (As := [.ref (Z.fa gf)]) (rest := []) (ci := 5) (q0 := 5) hx hb hml hown hg hP hD hK hS hA hnw hgk (x_undoNext9 l D ks H.size ad kk V200 L Z (b) (gf) (gB) (gm) (ga) (gr) (lv) (mk) (nd) (fl) ((if gm 0 6 = 3 then 1 else sp)) hMV200 (show b < 2 from by (first | exact om_289974d36c9f hb2 mup | omega)) (show gf < Z.nf from by (first | exact om_d9a628b8387a hgf gd kdp rd rd2 pq213 | omega)) mo230 (show (gf : Int) + 1 = (V200 5 6).toInt from by (first | exact om_23ab2a0d3264 gd kdp rd rd2 pq213 | omega)) (show (V200 67 gf).toInt = 0 from by (first | exact om_36161e850215 gk wr204 | omega)) rwx214 bc232 (show (V200 5 6).toInt ≤ 395 from by (first | exact om_1150cee5daf6 gd r1 kdp rd rd2 sl9 pq213 | omega)) (show (V200 68 gf).toInt = 2 from by (first | exact om_cb23ae8fe0b3 k68 wr205 | omega))) w1316 w1318 w52 w171 w1319 rfl xgMachine hdV_yX5_undoNext ⟨Nat.le_of_ble_eq_true rfl, Nat.le_of_ble_eq_true rfl⟩ rfl hl.1 rfl (Nat.le_of_ble_eq_true rfl) dX5_goOnGetting_86 ⟨z1 zoZ.1, z1 zoZ.2.1⟩) hD hS hA (fun u237 H locs w238 hP hD hK hS y239 y240 => ?_)
          obtain ⟨V241, L242, Z243⟩ := u237
          obtain ⟨hMV241, ajV241, axL242, zlZ243, t245, t246⟩ := w238
          have axL242 : L = L242 := Eq.symm axL242
          subst axL242
          replace hP : va_P D vwCl (xw ad kk V241 L Z243) H := hP
          replace hD : va_D A (xw ad kk V241 L Z243) := hD
          replace hK : va_K D vwCl (xty kk Z243) s := hK
          replace hMV241 : rgd bX V241 := hMV241
          replace ajV241 : agr [(5, 6), (5, 8), (5, 9), (5, 11), (5, 12)] [67, 68, 69, 70, 71, 72, 73, 74, 75, 76, 77, 78, 79, 80, 81, 82, 83, 84, 85] V200 V241 := ajV241
          have agV241 : agr [(3, 13), (5, 6), (5, 8), (5, 9), (5, 10), (5, 11), (5, 12), (5, 13), (5, 14)] [25, 26, 27, 28, 30, 67, 68, 69, 70, 71, 72, 73, 74, 75, 76, 77, 78, 79, 80, 81, 82, 83, 84, 85] V V241 := agV200.tr ajV241 (by decide) (by decide)
          replace zlZ243 : ZL Z Z243 := zlZ243
          have zoZ243 : ZL Z Z243 := ZL.tr zoZ zlZ243
          have ziZ243 := zlZ243.1
          have zjZ243 := zlZ243.2.1
          have zkZ243 := zlZ243.2.2.1
          have zmZ243 := zoZ243.1
          have znZ243 := zoZ243.2.1
          have zpZ_Z243 := zoZ.1
          have zqZ_Z243 := zoZ.2.1
          have y239 : H.size ≤ Hk233.size + (zcc Z - zcc Z243) := by rw [hHk233]; exact y239
          have y240 : tot H ≤ tot Hk233 + (zss Z - zss Z243) := by rw [hHk233]; exact y240
          refine W.tight (k := zcc Z - zcc Z243) (n := zss Z - zss Z243) (by first | exact tg9 y239 k234 zlZ243.1 zoZ.1 | omega) (by first | exact tg9 y240 k235 zlZ243.2.1 zoZ.2.1 | omega) ?_
          have hl : lv_has ls 2 [(0, .ref (ad 5)), (1, .ref (Z243.fa gf))] := by rw [zlZ243.2.2.2.2 gf hgf]; exact hl
          replace t245 : MJ V241 Z243 b := t245
          replace t246 : RW V241 gB (undoM gm ga gr lv mk nd fl (if gm 0 6 = 3 then 1 else sp)) := t246
          have rx247 : RW V241 gB (stM gB (gm, ga, gfr :: gr)) := by rw [hfe, st_2]; exact t246
          refine W.know (fun kr1 kr2 => ?_)
          refine W.widen (k := zcc Z) (n := zss Z) (Nat.sub_le _ _) (Nat.sub_le _ _) ?_
          exact W.vret hx hb hr (fun t ht hW => ⟨⟨(V241, L, Z243), rfl, ⟨hMV241, agV241, rfl, zoZ243, t245, rx247⟩, ⟨by rw [ht]; exact hP, va_K.moved hW.alike hK, hD⟩, by rw [ht]; exact kr1, by rw [ht]; exact kr2⟩, hS.F ht⟩) hS.2.2 dX5_goOnGetting_89
      · skip
        have f248 : ((V 68 gf)).toInt = 1 := b_eq rfl (by decide) c166
        exfalso; (first | exact om_36fb4cdadc8e k68 f248 | omega)
    · skip
      have f249 : ((V 68 gf)).toInt = 0 := b_eq rfl (by decide) c164
      exfalso; (first | exact om_caed67118137 k68 f249 | omega)
