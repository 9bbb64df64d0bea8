section
/-! an E reckons with two values; an E at work is within the code; a run goes on -/
theorem GOs.rn {B : Bk} : ∀ (n : Nat) {x : MS}, GOs B x → (∀ j, j < n → (rnM B j x).2.2 ≠ []) → GOs B (rnM B n x)
  | 0, _, h, _ => h
  | n + 1, x, h, q => by
    obtain ⟨m, a, fs⟩ := x
    cases fs with
    | nil => exact absurd rfl (q 0 (by omega))
    | cons f r => exact GOs.rn n (GOs.nx h) (fun j hj => q (j + 1) (by omega))
section RWk
variable {V W : Vf} {B : Bk} {m : Mm} {a : Int32} {f : Fr} {r : List Fr}
theorem RW.wat (h : RW V B (m, a, f :: r)) (s : SF B (m, a, f :: r)) (k : (V 67 r.length).toInt = 4) (z : (V 68 r.length).toInt = 0) : ∃ lv o c sc me ps at9 v p, f = Fwork lv o c sc me ps at9 v p ∧ at9.toNat < cl B.1 ∧ (V 84 r.length).toInt = ((psz (opf B.1) at9.toNat : Nat) : Int) ∧ ∃ q, OQ B (ndW B c ps) (decide (0 < ps)) at9.toNat p.length q := by
  obtain ⟨_, _, _, t, _, t0, _, h2, _, _, _⟩ := h
  rcases FRc.k4 h2 k with ⟨lv, o, c, sc, me, ps, at9, v, p, e⟩ | ⟨lv, o, c, sc, me, ps, at9, v, p, e⟩ | ⟨lv, o, c, sc, at9, nd, tg, v, g, p, e⟩ | ⟨lv, o, c, sc, at9, nd, tg, v, g, p, e⟩ | ⟨lv, o, c, sc, at9, nd, tg, it, v, g, u, p, e⟩
  · subst e
    obtain ⟨q, oq⟩ : SFt B m a (Fwork lv o c sc me ps at9 v p) := s.2.2.2.2 _ _ rfl
    exact ⟨lv, o, c, sc, me, ps, at9, v, p, rfl, OQ.lt oq, h2.2.2.2.1.2, q, oq⟩
  · subst e
    have y := h2.1.2
    omega
  · subst e
    have y := h2.1.2
    omega
  · subst e
    have y := h2.1.2
    omega
  · subst e
    have y := h2.1.2
    omega
theorem RW.cmp {lv o c sc me ps at9 : Int} {v x y val : Int32} {p : List Int32} (h : RW V B (m, a, Fwork lv o c sc me ps at9 v (x :: y :: p) :: r)) (e84 : (W 84 r.length).toInt = (V 84 r.length).toInt + 1) (pz : psz (opf B.1) (at9.toNat + 1) = psz (opf B.1) at9.toNat + 1) (e57 : (W 5 7).toInt = (V 5 7).toInt - 1) (e39 : ∀ j : Nat, (j : Int) + 2 = (V 5 7).toInt → W 39 j = val) (o39 : ∀ j : Nat, (j : Int) + 2 < (V 5 7).toInt → W 39 j = V 39 j) (cc : ∀ x k, x ≠ 39 → ¬ (x = 84 ∧ k = r.length) → ¬ (x = 5 ∧ k = 7) → W x k = V x k) : RW W B (m, a, Fwork lv o c sc me ps ((at9.toNat + 1 : Nat) : Int) v (val :: p) :: r) := by
  obtain ⟨⟨ow, hn⟩, hh, hd, t, ht, t0, h1, h2, h3, ⟨t1, g1, g2, t2, g3, g4, g5⟩, h5⟩ := h
  have h1 : t = t0 + (p.length + 1 + 1) := h1
  have es : ESw V W := ⟨fun k => cc 3 k (by decide) (by omega) (by omega), cc 4 6 (by decide) (by omega) (by omega), ⟨cc 5 13 (by decide) (by omega) (by omega), cc 5 14 (by decide) (by omega) (by omega), cc 5 8 (by decide) (by omega) (by omega)⟩, fun c k _ _ _ => cc c k (by omega) (by omega) (by omega), fun k => cc 40 k (by decide) (by omega) (by omega)⟩
  refine ⟨⟨ow, hn.es es⟩, ⟨?_, ?_, ?_, ?_, ?_⟩, ?_, t2 + 1, by omega, t0, ?_, ?_, ?_, ⟨t2, rfl, e39 t2 (by omega), g5.mv (fun j hj => o39 j (by omega))⟩, h5.mv (fun i hi c _ _ => cc c i (by omega) (by omega) (by omega)) (fun j hj => o39 j (by omega)) (by rw [cc 3 13 (by decide) (by omega) (by omega)]; exact Int.le_refl _) (cc 3 12 (by decide) (by omega) (by omega))⟩
  · rw [cc 5 9 (by decide) (by omega) (by omega)]
    exact hh.1
  · intro z
    rw [cc 5 10 (by decide) (by omega) (by omega)]
    exact hh.2.1 z
  · intro z
    rw [cc 5 11 (by decide) (by omega) (by omega), cc 5 12 (by decide) (by omega) (by omega)]
    exact hh.2.2.1 z
  · rw [cc 5 8 (by decide) (by omega) (by omega)]
    exact hh.2.2.2.1
  · intro i hi
    rw [cc 40 i (by decide) (by omega) (by omega)]
    exact hh.2.2.2.2 i hi
  · rw [cc 5 6 (by decide) (by omega) (by omega)]
    exact hd
  · show t2 + 1 = t0 + (p.length + 1)
    omega
  · obtain ⟨k1, oc, hp, ⟨a0, q⟩, q74⟩ := h2
    refine ⟨?_, ?_, ?_, ⟨Int.natCast_nonneg _, ?_⟩, ?_⟩
    · unfold kp at k1 ⊢
      rw [cc 67 _ (by decide) (by omega) (by omega), cc 68 _ (by decide) (by omega) (by omega)]
      exact k1
    · unfold ocs at oc ⊢
      rw [cc 69 _ (by decide) (by omega) (by omega), cc 70 _ (by decide) (by omega) (by omega), cc 71 _ (by decide) (by omega) (by omega), cc 72 _ (by decide) (by omega) (by omega), cc 3 12 (by decide) (by omega) (by omega), cc 3 13 (by decide) (by omega) (by omega)]
      exact oc
    · rw [cc 73 _ (by decide) (by omega) (by omega), cc 75 _ (by decide) (by omega) (by omega)]
      exact hp
    · show _ = ((psz (opf B.1) (at9.toNat + 1) : Nat) : Int)
      omega
    · rw [cc 74 _ (by decide) (by omega) (by omega)]
      exact q74
  · intro z1 z2
    rw [cc 85 _ (by decide) (by omega) (by omega)]
    exact h3 z1 z2
end RWk
theorem up2_bk {V W : Vf} {c k : Nat} {z : Int32} (h : W = up2 V c k z) : up2 W c k (V c k) = V := by
  rw [h]
  funext x j
  by_cases q : x = c ∧ j = k
  · rw [q.1, q.2]
    exact up2_s rfl
  · rw [up2_pl q, up2_pl q]
theorem enO_r : ∀ o : Fin 16, 5 ≤ enO o.val → enO o.val < 10 → 5 ≤ o.val ∧ o.val ≤ 9 := by decide
theorem enO_59 {o : Nat} (h : o < 16) (a : 5 ≤ enO o) (b : enO o < 10) : 5 ≤ o ∧ o ≤ 9 := enO_r ⟨o, h⟩ a b


abbrev r_x_compute9 : Room := { frames := 0, cells := 0, slots := 0, locals := 0 }
abbrev q_x_compute9 (D : va_G) (p0 : Int32) (p1 : Int32) (p2 : Int32) (A : Nat → Prop) : Array Value → State → Outcome → State → Prop := va_Qi (fun (r : Int32) (_ : Unit) => ((p0.toInt = 5 → r = p1 + p2) ∧ (p0.toInt = 6 → r = p1 - p2) ∧ (p0.toInt = 7 → r = p1 * p2) ∧ (p0.toInt = 8 → r = (if p1.toInt < p2.toInt then 1 else 0)) ∧ (9 ≤ p0.toInt → r = (if p1 = p2 then 1 else 0)))) (fun _ t => gq D A [] [] t) A
set_option maxHeartbeats 4000000 in
set_option maxRecDepth 100000 in
theorem x_compute9 (l : Launch) (D : va_G) (ks : KS) (sz : Nat) (p0 : Int32) (p1 : Int32) (p2 : Int32)  : Met l yX5_compute (Cond.code yX5_compute cX5_compute 3 (some .int) :: GW) r_x_compute9 (va_Pc [.int p0, .int p1, .int p2] (gp D ks ([]) ([]) sz)) (q_x_compute9 D p0 p1 p2 (va_A ([]) sz)) 0 0 (va_A ([]) sz) := by
  refine g_met (q_x_compute9 D p0 p1 p2) (by decide) (Nat.le_of_ble_eq_true rfl) ?_
  intro p e s m below meth c A ls H locs hx hb hr hml hown hg hlocks hin hnw hgk hP hK hD hS hA hl
  replace hown : s.vm.findClass RX5 = some m.cls := hown
  replace hl : lv_has ls 3 [(0, .int p0), (1, .int p1), (2, .int p2)] := hl
  refine lv_iload_n hx hb dX5_compute_0 rfl (lv_at hl 0 rfl) ?_
  by_cases q1 : p0 = 5
  · refine g_top (v := 5) q1 ?_
    have fq1 : p0.toInt = 5 := b_eq rfl (by decide) q1
    refine lv_tableIn (x := 5) (off := 31) (tgt := 32) hx hb dX5_compute_1 (by decide) (by decide) (by decide) (by decide) ?_
    refine lv_iload_n hx hb dX5_compute_32 rfl (lv_at hl 1 rfl) ?_
    refine lv_iload_n hx hb dX5_compute_33 rfl (lv_at hl 2 rfl) ?_
    refine lv_iadd hx hb dX5_compute_34 ?_
    have r2 := i_full p1
    have r3 := i_full p2
    refine lv_topi (fun z4 ez4 => ?_)
    have hz4 : Imp (-2147483648 ≤ p1.toInt + p2.toInt ∧ p1.toInt + p2.toInt ≤ 2147483647) (z4.toInt = p1.toInt + p2.toInt) := Imp.mk (fun hp => i_add ez4 rfl rfl hp)
    exact W.iret (v := z4) hx hb hr (fun t ht hW => ⟨⟨z4, (), rfl, ⟨(fun _ => ez4), (fun h9 => by exfalso; omega), (fun h9 => by exfalso; omega), (fun h9 => by exfalso; omega), (fun h9 => by exfalso; omega)⟩, by rw [ht]; exact hP, va_K.moved hW.alike hK, hD⟩, hS.F ht⟩) hS.2.2 dX5_compute_35
  have gq1 : p0.toInt ≠ 5 := b_neq rfl (by decide) q1
  by_cases q5 : p0 = 6
  · refine g_top (v := 6) q5 ?_
    have fq5 : p0.toInt = 6 := b_eq rfl (by decide) q5
    refine lv_tableIn (x := 6) (off := 35) (tgt := 36) hx hb dX5_compute_1 (by decide) (by decide) (by decide) (by decide) ?_
    refine lv_iload_n hx hb dX5_compute_36 rfl (lv_at hl 1 rfl) ?_
    refine lv_iload_n hx hb dX5_compute_37 rfl (lv_at hl 2 rfl) ?_
    refine lv_isub hx hb dX5_compute_38 ?_
    have r6 := i_full p1
    have r7 := i_full p2
    refine lv_topi (fun z8 ez8 => ?_)
    have hz8 : Imp (-2147483648 ≤ p1.toInt - p2.toInt ∧ p1.toInt - p2.toInt ≤ 2147483647) (z8.toInt = p1.toInt - p2.toInt) := Imp.mk (fun hp => i_sub ez8 rfl rfl hp)
    exact W.iret (v := z8) hx hb hr (fun t ht hW => ⟨⟨z8, (), rfl, ⟨(fun h9 => by exfalso; omega), (fun _ => ez8), (fun h9 => by exfalso; omega), (fun h9 => by exfalso; omega), (fun h9 => by exfalso; omega)⟩, by rw [ht]; exact hP, va_K.moved hW.alike hK, hD⟩, hS.F ht⟩) hS.2.2 dX5_compute_39
  have gq5 : p0.toInt ≠ 6 := b_neq rfl (by decide) q5
  by_cases q9 : p0 = 7
  · refine g_top (v := 7) q9 ?_
    have fq9 : p0.toInt = 7 := b_eq rfl (by decide) q9
    refine lv_tableIn (x := 7) (off := 39) (tgt := 40) hx hb dX5_compute_1 (by decide) (by decide) (by decide) (by decide) ?_
    refine lv_iload_n hx hb dX5_compute_40 rfl (lv_at hl 1 rfl) ?_
    refine lv_iload_n hx hb dX5_compute_41 rfl (lv_at hl 2 rfl) ?_
    refine lv_imul hx hb dX5_compute_42 ?_
    have r10 := i_full p1
    have r11 := i_full p2
    refine lv_topi (fun z12 ez12 => ?_)
    exact W.iret (v := z12) hx hb hr (fun t ht hW => ⟨⟨z12, (), rfl, ⟨(fun h9 => by exfalso; omega), (fun h9 => by exfalso; omega), (fun _ => ez12), (fun h9 => by exfalso; omega), (fun h9 => by exfalso; omega)⟩, by rw [ht]; exact hP, va_K.moved hW.alike hK, hD⟩, hS.F ht⟩) hS.2.2 dX5_compute_43
  have gq9 : p0.toInt ≠ 7 := b_neq rfl (by decide) q9
  by_cases q13 : p0 = 8
  · refine g_top (v := 8) q13 ?_
    have fq13 : p0.toInt = 8 := b_eq rfl (by decide) q13
    refine lv_tableIn (x := 8) (off := 43) (tgt := 44) hx hb dX5_compute_1 (by decide) (by decide) (by decide) (by decide) ?_
    refine lv_iload_n hx hb dX5_compute_44 rfl (lv_at hl 1 rfl) ?_
    refine lv_iload_n hx hb dX5_compute_45 rfl (lv_at hl 2 rfl) ?_
    refine lv_icmp_ge (tgt := 53) hx hb dX5_compute_46 (by decide) (fun c14 => ?_) (fun c14 => ?_)
    · skip
      have f15 : p2.toInt ≤ p1.toInt := b_le rfl rfl c14
      refine lv_iconst (v := 0) hx hb dX5_compute_53 (by decide) ?_
      exact W.iret (v := 0) hx hb hr (fun t ht hW => ⟨⟨0, (), rfl, ⟨(fun h9 => by exfalso; omega), (fun h9 => by exfalso; omega), (fun h9 => by exfalso; omega), (fun _ => by rw [if_neg (by omega)]), (fun h9 => by exfalso; omega)⟩, by rw [ht]; exact hP, va_K.moved hW.alike hK, hD⟩, hS.F ht⟩) hS.2.2 dX5_compute_54
    · skip
      have f16 : p1.toInt < p2.toInt := b_nle rfl rfl c14
      refine lv_iconst (v := 1) hx hb dX5_compute_49 (by decide) ?_
      refine lv_goto (tgt := 54) hx hb dX5_compute_50 (by decide) ?_
      exact W.iret (v := 1) hx hb hr (fun t ht hW => ⟨⟨1, (), rfl, ⟨(fun h9 => by exfalso; omega), (fun h9 => by exfalso; omega), (fun h9 => by exfalso; omega), (fun _ => by rw [if_pos (by omega)]), (fun h9 => by exfalso; omega)⟩, by rw [ht]; exact hP, va_K.moved hW.alike hK, hD⟩, hS.F ht⟩) hS.2.2 dX5_compute_54
  have gq13 : p0.toInt ≠ 8 := b_neq rfl (by decide) q13
  refine lv_tableOut (x := p0) (tgt := 55) hx hb dX5_compute_1 (by omega) (by decide) ?_
  refine lv_iload_n hx hb dX5_compute_55 rfl (lv_at hl 1 rfl) ?_
  refine lv_iload_n hx hb dX5_compute_56 rfl (lv_at hl 2 rfl) ?_
  refine lv_icmp_ne (tgt := 64) hx hb dX5_compute_57 (by decide) (fun c17 => ?_) (fun c17 => ?_)
  · skip
    have f18 : p1.toInt ≠ p2.toInt := b_neq rfl rfl c17
    refine lv_iconst (v := 0) hx hb dX5_compute_64 (by decide) ?_
    exact W.iret (v := 0) hx hb hr (fun t ht hW => ⟨⟨0, (), rfl, ⟨(fun h9 => by exfalso; omega), (fun h9 => by exfalso; omega), (fun h9 => by exfalso; omega), (fun h9 => by exfalso; omega), (fun _ => by rw [if_neg (fun h8 => by have h7 := congrArg Int32.toInt h8; omega)])⟩, by rw [ht]; exact hP, va_K.moved hW.alike hK, hD⟩, hS.F ht⟩) hS.2.2 dX5_compute_65
  · skip
    have f19 : p1.toInt = p2.toInt := b_eq rfl rfl c17
    refine lv_iconst (v := 1) hx hb dX5_compute_60 (by decide) ?_
    refine lv_goto (tgt := 65) hx hb dX5_compute_61 (by decide) ?_
    exact W.iret (v := 1) hx hb hr (fun t ht hW => ⟨⟨1, (), rfl, ⟨(fun h9 => by exfalso; omega), (fun h9 => by exfalso; omega), (fun h9 => by exfalso; omega), (fun h9 => by exfalso; omega), (fun _ => by rw [if_pos (Int32.toInt_inj.mp (by omega))])⟩, by rw [ht]; exact hP, va_K.moved hW.alike hK, hD⟩, hS.F ht⟩) hS.2.2 dX5_compute_65
abbrev r_x_work9 (Z : XZ) : Room := { frames := 5, cells := zcc Z, slots := zss Z, locals := 112 }
abbrev q_x_work9 (D : va_G) (ks : KS) (ad : Nat → Nat) (kk : Nat → ClassId) (V : Vf) (L : Lf) (Z : XZ) (b : Nat) (gf : Nat) (gB : Bk) (gm : Mm) (ga : Int32) (gfr : Fr) (gr : List Fr) (A : Nat → Prop) : Array Value → State → Outcome → State → Prop := qZv D (fun (u : Vf × Lf × XZ) => rgd bX u.1 ∧ agr [(5, 6), (5, 7), (5, 9), (5, 10), (5, 11), (5, 12), (5, 13), (5, 14)] [39, 67, 68, 69, 70, 71, 72, 73, 74, 75, 76, 77, 78, 79, 80, 81, 82, 83, 84, 85] V u.1 ∧ u.2.1 = L ∧ ZL Z u.2.2 ∧ (MJ u.1 u.2.2 b) ∧ (∃ n, 1 ≤ n ∧ RW u.1 gB (rnM gB n (gm, ga, gfr :: gr)))) (fun u => xw ad kk u.1 u.2.1 u.2.2) (fun u => xty kk u.2.2) (fun u => zcc Z - zcc u.2.2) (fun u => zss Z - zss u.2.2) A
set_option maxHeartbeats 4000000 in
set_option maxRecDepth 100000 in
theorem x_work9 (l : Launch) (D : va_G) (ks : KS) (sz : Nat) (ad : Nat → Nat) (kk : Nat → ClassId) (V : Vf) (L : Lf) (Z : XZ) (b : Nat) (gf : Nat) (gB : Bk) (gm : Mm) (ga : Int32) (gfr : Fr) (gr : List Fr) (hMV : rgd bX V) (hb2 : b < 2) (hgf : gf < Z.nf) (mo : MO V Z b gf True True True) (gd : (gf : Int) + 1 = (V 5 6).toInt) (gk : (V 67 gf).toInt = 4) (gph : (V 68 gf).toInt = 0) (rwq : RW V gB (gm, ga, gfr :: gr)) (bc : BKc V b gB) (go9 : GOs gB (gm, ga, gfr :: gr))  : Met l yX5_work (Cond.code yX5_work cX5_work 6 none :: GW) (r_x_work9 Z) (va_Pc [.ref (ad 5), .ref (Z.fa gf)] (gp D ks (xw ad kk V L Z) (xty kk Z) sz)) (q_x_work9 D ks ad kk V L Z  b gf gB gm ga gfr gr (va_A (xw ad kk V L Z) sz)) (zcc Z) (zss Z) (va_A (xw ad kk V L Z) sz) := by
  refine g_met (q_x_work9 D ks ad kk V L Z  b gf gB gm ga gfr gr) (by decide) (Nat.le_of_ble_eq_true rfl) ?_
  intro p e s m below meth c A ls H locs hx hb hr hml hown hg hlocks hin hnw hgk hP hK hD hS hA hl
  replace hown : s.vm.findClass RX5 = some m.cls := hown
  replace hl : lv_has ls 6 [(0, .ref (ad 5)), (1, .ref (Z.fa gf))] := hl
  replace hP : va_P D vwCl (xw ad kk V L Z) H := hP
  replace hD : va_D A (xw ad kk V L Z) := hD
  replace hK : va_K D vwCl (xty kk Z) s := hK
  have agV : agr [(5, 6), (5, 7), (5, 9), (5, 10), (5, 11), (5, 12), (5, 13), (5, 14)] [39, 67, 68, 69, 70, 71, 72, 73, 74, 75, 76, 77, 78, 79, 80, 81, 82, 83, 84, 85] V V := agr.rf
  have zoZ : ZL Z Z := ZL.rf
  refine W.know (fun ka kb => ?_)
  refine W.tight (k := zcc Z - zcc Z) (n := zss Z - zss Z) (by omega) (by omega) ?_
  have r1 : 0 ≤ ((V 5 6)).toInt ∧ ((V 5 6)).toInt ≤ 400 := hMV 5 6
  have kdp := i_clamp (x := V 5 6) rfl (by (first | exact om_c66f1b494bd9 gd | omega))
  have hdn : (gf : Int) + 1 ≤ (Z.nf : Int) := by (first | exact om_29efded833ec hgf | omega)
  have mup := MO.up mo
  have msz := mup.1
  have mbk := mup.2.2.2.1
  obtain ⟨xk, fk⟩ := MO.fk mo
  have r2 : (-1) ≤ ((V 71 gf)).toInt ∧ ((V 71 gf)).toInt ≤ 23 := hMV 71 gf
  have r3 : 0 ≤ ((V 75 gf)).toInt ∧ ((V 75 gf)).toInt ≤ 12 := hMV 75 gf
  have r4 : 0 ≤ ((V 80 gf)).toInt ∧ ((V 80 gf)).toInt ≤ 300 := hMV 80 gf
  have r5 : 0 ≤ ((V 84 gf)).toInt ∧ ((V 84 gf)).toInt ≤ 2147483647 := hMV 84 gf
  have r6 : 0 ≤ ((V 5 8)).toInt ∧ ((V 5 8)).toInt ≤ 300 := hMV 5 8
  have r7 : 0 ≤ ((V 5 9)).toInt ∧ ((V 5 9)).toInt ≤ 3 := hMV 5 9
  have r8 : 0 ≤ ((V 3 13)).toInt ∧ ((V 3 13)).toInt ≤ 300 := hMV 3 13
  have r9 : 0 ≤ ((V 43 (5 * b + 2))).toInt ∧ ((V 43 (5 * b + 2))).toInt ≤ ((xcap (5 * b + 2) : Nat) : Int) := hMV 43 (5 * b + 2)
  have r10 : xcap (5 * b + 2) = 24 := xcap_2
  have r11 : 0 ≤ ((V 41 b)).toInt ∧ ((V 41 b)).toInt ≤ 12 := hMV 41 b
  have r12 : 0 ≤ ((V 42 b)).toInt ∧ ((V 42 b)).toInt ≤ 8200 := hMV 42 b
  have fc := fk.1 (by omega)
  have fo := fk.2.1 (by omega) (by omega)
  have ft := fk.2.2.1 (by omega)
  have fq := fk.2.2.2.1 (by omega)
  refine lv_iconst (v := 1) hx hb dX5_work_0 (by decide) ?_
  refine lv_istore_n (lv' := [(2, .int 1), (0, .ref (ad 5)), (1, .ref (Z.fa gf))]) hx hb dX5_work_1 rfl hl (by decide) rfl (fun ls hl => ?_)
  refine lv_iconst (v := 0) hx hb dX5_work_2 (by decide) ?_
  refine lv_istore_n (lv' := [(3, .int 0), (2, .int 1), (0, .ref (ad 5)), (1, .ref (Z.fa gf))]) hx hb dX5_work_3 rfl hl (by decide) rfl (fun ls hl => ?_)
  have lp16 : ∀ (fulp16 : Nat) (y13 : Int32) (y14 : Int32) (V15 : Vf) (H : Heap) (locs : List Loc) (ls : Array Slot), 0 ≤ y13.toInt ∧ y13.toInt ≤ 8200 → 1 ≤ y14.toInt ∧ y14.toInt ≤ 1 → MO V15 Z b gf True True True → (gf : Int) + 1 = (V15 5 6).toInt → (V15 67 gf).toInt = 4 → (V15 68 gf).toInt = 0 → (∃ n m2 f2, rnM gB n (gm, ga, gfr :: gr) = (m2, ga, f2 :: gr) ∧ RW V15 gB (m2, ga, f2 :: gr) ∧ GOs gB (m2, ga, f2 :: gr) ∧ (y13.toInt = 0 ∨ 1 ≤ n)) → 8200 - y13.toInt < (fulp16 : Int) → agr [(5, 6), (5, 7), (5, 9), (5, 10), (5, 11), (5, 12), (5, 13), (5, 14)] [39, 67, 68, 69, 70, 71, 72, 73, 74, 75, 76, 77, 78, 79, 80, 81, 82, 83, 84, 85] V V15 → rgd bX V15 → va_P D vwCl (xw ad kk V15 L Z) H → va_D A (xw ad kk V15 L Z) → va_S A s.heap H locs → lv_has ls 6 [(3, .int y13), (2, .int y14), (0, .ref (ad 5)), (1, .ref (Z.fa gf))] → W p l e (r_x_work9 Z) s m ([.ref (ad 5), .ref (Z.fa gf)] : List Value).toArray below meth c H locs (zcc Z - zcc Z) (zss Z - zss Z) (MQ below (q_x_work9 D ks ad kk V L Z  b gf gB gm ga gfr gr A) ([.ref (ad 5), .ref (Z.fa gf)] : List Value).toArray s (zcc Z) (zss Z) A) (F0 m 4 ls []) := by
    intro fulp16
    induction fulp16 with
    | zero =>
      intro y13 y14 V15 H locs ls klp16_0 klp16_1 xlp16_0 xlp16_1 xlp16_2 xlp16_3 xlp16_4 hn ajV15 hMV15 hP hD hS hl
      exfalso; (first | exact om_95ea9e43c4d3 klp16_0.2 hn | omega)
    | succ fulp16 ihlp16 =>
      intro y13 y14 V15 H locs ls klp16_0 klp16_1 xlp16_0 xlp16_1 xlp16_2 xlp16_3 xlp16_4 hn ajV15 hMV15 hP hD hS hl
      have agV15 : agr [(5, 6), (5, 7), (5, 9), (5, 10), (5, 11), (5, 12), (5, 13), (5, 14)] [39, 67, 68, 69, 70, 71, 72, 73, 74, 75, 76, 77, 78, 79, 80, 81, 82, 83, 84, 85] V V15 := agV.tr ajV15 (by decide) (by decide)
      have r17 : 0 ≤ ((V15 5 6)).toInt ∧ ((V15 5 6)).toInt ≤ 400 := hMV15 5 6
      have mup := MO.up xlp16_0
      have msz := mup.1
      have mbk := mup.2.2.2.1
      obtain ⟨xk, fk⟩ := MO.fk xlp16_0
      have r18 : (-1) ≤ ((V15 71 gf)).toInt ∧ ((V15 71 gf)).toInt ≤ 23 := hMV15 71 gf
      have r19 : 0 ≤ ((V15 75 gf)).toInt ∧ ((V15 75 gf)).toInt ≤ 12 := hMV15 75 gf
      have r20 : 0 ≤ ((V15 80 gf)).toInt ∧ ((V15 80 gf)).toInt ≤ 300 := hMV15 80 gf
      have r21 : 0 ≤ ((V15 84 gf)).toInt ∧ ((V15 84 gf)).toInt ≤ 2147483647 := hMV15 84 gf
      have pq22 : (V15 5 8).toInt = ((V 5 8)).toInt := congrArg Int32.toInt (ajV15 5 8 rfl)
      have r23 : 0 ≤ ((V15 5 9)).toInt ∧ ((V15 5 9)).toInt ≤ 3 := hMV15 5 9
      have pq24 : (V15 3 13).toInt = ((V 3 13)).toInt := congrArg Int32.toInt (ajV15 3 13 rfl)
      have pq25 : (V15 43 (5 * b + 2)).toInt = ((V 43 (5 * b + 2))).toInt := congrArg Int32.toInt (ajV15 43 (5 * b + 2) rfl)
      have pq26 : (V15 41 b).toInt = ((V 41 b)).toInt := congrArg Int32.toInt (ajV15 41 b rfl)
      have pq27 : (V15 42 b).toInt = ((V 42 b)).toInt := congrArg Int32.toInt (ajV15 42 b rfl)
      have fc := fk.1 (by omega)
      have fo := fk.2.1 (by omega) (by omega)
      have ft := fk.2.2.1 (by omega)
      have fq := fk.2.2.2.1 (by omega)
      obtain ⟨n9, m2, f2, er9, rw9, go2, nz9⟩ := xlp16_4
      have rdh : (V15 5 6).toInt = ((gr.length + 1 : Nat) : Int) := rw9.2.2.1
      have gl9 : gr.length = gf := by (first | exact om_ec03263ced6a xlp16_1 rdh | omega)
      obtain ⟨lv, o, c, sc, me, ps, at9, v, p, hfe, hi9, q84, q9, oq9⟩ := RW.wat rw9 (GOs.sf go2) (by rw [gl9]; omega) (by rw [gl9]; omega)
      rw [gl9] at q84
      have bc28 : BKc V15 b gB := BKc.b4 bc (agr.b4 (show agr [(5, 6), (5, 7), (5, 9), (5, 10), (5, 11), (5, 12), (5, 13), (5, 14)] [39, 67, 68, 69, 70, 71, 72, 73, 74, 75, 76, 77, 78, 79, 80, 81, 82, 83, 84, 85] V V15 from (agr.tr agr.rf ajV15 (by decide) (by decide))) (by decide))
      have wl9 : psz (opf gB.1) at9.toNat < wl gB.1 := psz_lt hi9
      have c42 : (V15 42 b).toInt = ((wl gB.1 : Nat) : Int) := (bc28).1.1
      refine lv_iload_n hx hb dX5_work_4 rfl (lv_at hl 1 rfl) ?_
      refine lv_if_eq (tgt := 119) hx hb dX5_work_5 (by decide) (fun c29 => ?_) (fun c29 => ?_)
      · skip
        have f30 : y14.toInt = 0 := b_eq rfl (by decide) c29
        exfalso; (first | exact om_09885ab343b9 klp16_1.1 f30 | omega)
      · skip
        have f31 : y14.toInt ≠ 0 := b_neq rfl (by decide) c29
        refine lv_iload_n hx hb dX5_work_8 rfl (lv_at hl 0 rfl) ?_
        refine lv_aload_n hx hb dX5_work_9 rfl (lv_at hl 2 rfl) ?_
        refine va_get (D := D) (ci := 5) (v := .ref (ad (38 + Int32.toNatClampNeg (V15 5 5)))) (fs := (xfMachine ad V15 L Z)) (C := RX5) (T := TX5) (N := 15) hx hb hg inX5 hown hK hP 5 xgMachine rfl 5 (by decide) (hg _ w672) (fun _ h9 => h9) rfl dX5_work_10 ?_
        have pq32 : (V15 5 5).toInt = ((V 5 5)).toInt := congrArg Int32.toInt (ajV15 5 5 rfl)
        have r33 : 0 ≤ ((V 5 5)).toInt ∧ ((V 5 5)).toInt ≤ 1 := hMV 5 5
        refine g_topv (v := .ref (ad (38 + b))) (rfP (by omega)) ?_
        refine va_getN (D := D) (ci := 0) (v := .int (V15 42 b)) (fs := (xfBook ad V15 b)) (C := RX0) (T := TX0) (N := 13) hx hb hg inX0 hown hK hP (38 + b) (xgBook hb2) rfl 12 (by decide) (hnw.use 631 n631 rfl) (fun _ h9 => h9) rfl dX5_work_13 ?_
        refine g_top (v := (V 42 b)) (ajV15 42 b rfl) ?_
        refine lv_icmp_ge (tgt := 119) hx hb dX5_work_16 (by decide) (fun c34 => ?_) (fun c34 => ?_)
        · skip
          have f35 : ((V 42 b)).toInt ≤ y13.toInt := b_le rfl rfl c34
          have me36 : ME V15 V15 gf := ME.rf
          have af38 : (V15 42 b).toInt ≤ (V15 84 gf).toInt ∨ (bdp V15 b (V15 84 gf).toInt.toNat).1 = true := by rw [me36.1.bd, me36.1 42 b (by decide) (by decide)]; exact ft
          have mo37 : MO V15 Z b gf True (QN V15 b) (QN V15 b) := MO.ch xlp16_0 me36 rfl rfl (fun _ => Or.inl (by omega)) (fun x h => FK.k4 (by omega) (by omega) (by omega) af38 (by omega) (fun hph => absurd hph (by omega)))
          have rp39 : MJ V15 Z b := MO.mj mo37 (by (first | exact om_c09d41618ed8 hgf | omega)) (by (first | exact om_f83a9f502b35 rdh gl9 | omega)) id id Or.inr
          refine W.know (fun kr1 kr2 => ?_)
          refine W.widen (k := zcc Z) (n := zss Z) (Nat.sub_le _ _) (Nat.sub_le _ _) ?_
          exact W.vret hx hb hr (fun t ht hW => ⟨⟨(V15, L, Z), rfl, ⟨hMV15, agV15, rfl, zoZ, rp39, ⟨n9, by omega, (by rw [er9]; exact rw9)⟩⟩, ⟨by rw [ht]; exact hP, va_K.moved hW.alike hK, hD⟩, by rw [ht]; exact kr1, by rw [ht]; exact kr2⟩, hS.F ht⟩) hS.2.2 dX5_work_119
        · skip
          have f40 : y13.toInt < ((V 42 b)).toInt := b_nle rfl rfl c34
          refine lv_aload_n hx hb dX5_work_19 rfl (lv_at hl 3 rfl) ?_
          refine va_getN (D := D) (ci := 4) (v := .int (V15 84 gf)) (fs := (xfFrame V15 gf)) (C := RX4) (T := TX4) (N := 19) hx hb hg inX4 hown hK hP (336 + gf) (xgFrame hgf) rfl 17 (by decide) (hnw.use 1206 n1206 rfl) (fun _ h9 => h9) rfl dX5_work_20 ?_
          refine lv_aload_n hx hb dX5_work_23 rfl (lv_at hl 2 rfl) ?_
          refine va_get (D := D) (ci := 5) (v := .ref (ad (38 + Int32.toNatClampNeg (V15 5 5)))) (fs := (xfMachine ad V15 L Z)) (C := RX5) (T := TX5) (N := 15) hx hb hg inX5 hown hK hP 5 xgMachine rfl 5 (by decide) (hg _ w672) (fun _ h9 => h9) rfl dX5_work_24 ?_
          refine g_topv (v := .ref (ad (38 + b))) (rfP (by omega)) ?_
          refine va_getN (D := D) (ci := 0) (v := .int (V15 42 b)) (fs := (xfBook ad V15 b)) (C := RX0) (T := TX0) (N := 13) hx hb hg inX0 hown hK hP (38 + b) (xgBook hb2) rfl 12 (by decide) (hnw.use 631 n631 rfl) (fun _ h9 => h9) rfl dX5_work_27 ?_
          refine g_top (v := (V 42 b)) (ajV15 42 b rfl) ?_
          refine lv_icmp_ge (tgt := 119) hx hb dX5_work_30 (by decide) (fun c41 => ?_) (fun c41 => ?_)
          · skip
            have f42 : ((V 42 b)).toInt ≤ ((V15 84 gf)).toInt := b_le rfl rfl c41
            have me43 : ME V15 V15 gf := ME.rf
            have af45 : (V15 42 b).toInt ≤ (V15 84 gf).toInt ∨ (bdp V15 b (V15 84 gf).toInt.toNat).1 = true := by rw [me43.1.bd, me43.1 42 b (by decide) (by decide)]; exact ft
            have mo44 : MO V15 Z b gf True (QN V15 b) (QN V15 b) := MO.ch xlp16_0 me43 rfl rfl (fun _ => Or.inl (by omega)) (fun x h => FK.k4 (by omega) (by omega) (by omega) af45 (by omega) (fun hph => absurd hph (by omega)))
            have rp46 : MJ V15 Z b := MO.mj mo44 (by (first | exact om_c09d41618ed8 hgf | omega)) (by (first | exact om_6815fc1b8223 xlp16_1 | omega)) id id Or.inr
            refine W.know (fun kr1 kr2 => ?_)
            refine W.widen (k := zcc Z) (n := zss Z) (Nat.sub_le _ _) (Nat.sub_le _ _) ?_
            exact W.vret hx hb hr (fun t ht hW => ⟨⟨(V15, L, Z), rfl, ⟨hMV15, agV15, rfl, zoZ, rp46, ⟨n9, by omega, (by rw [er9]; exact rw9)⟩⟩, ⟨by rw [ht]; exact hP, va_K.moved hW.alike hK, hD⟩, by rw [ht]; exact kr1, by rw [ht]; exact kr2⟩, hS.F ht⟩) hS.2.2 dX5_work_119
          · skip
            have f47 : ((V15 84 gf)).toInt < ((V 42 b)).toInt := b_nle rfl rfl c41
            refine lv_aload_n hx hb dX5_work_33 rfl (lv_at hl 2 rfl) ?_
            refine va_get (D := D) (ci := 5) (v := .ref (ad (38 + Int32.toNatClampNeg (V15 5 5)))) (fs := (xfMachine ad V15 L Z)) (C := RX5) (T := TX5) (N := 15) hx hb hg inX5 hown hK hP 5 xgMachine rfl 5 (by decide) (hg _ w672) (fun _ h9 => h9) rfl dX5_work_34 ?_
            refine g_topv (v := .ref (ad (38 + b))) (rfP (by omega)) ?_
            refine va_getN (D := D) (ci := 0) (v := .ref (ad (70 + b))) (fs := (xfBook ad V15 b)) (C := RX0) (T := TX0) (N := 13) hx hb hg inX0 hown hK hP (38 + b) (xgBook hb2) rfl 10 (by decide) (hnw.use 624 n624 rfl) (fun _ h9 => h9) rfl dX5_work_37 ?_
            refine lv_aload_n hx hb dX5_work_40 rfl (lv_at hl 3 rfl) ?_
            refine va_getN (D := D) (ci := 4) (v := .int (V15 84 gf)) (fs := (xfFrame V15 gf)) (C := RX4) (T := TX4) (N := 19) hx hb hg inX4 hown hK hP (336 + gf) (xgFrame hgf) rfl 17 (by decide) (hnw.use 1206 n1206 rfl) (fun _ h9 => h9) rfl dX5_work_41 ?_
            have il48 : b < 2 := by (first | exact om_f940a4667dd6 hb2 | omega)
            refine va_iald (D := D) (i := (V15 84 gf)) hx hb hK hP (70 + b) (63 + b) (xgcode il48) (xtcode il48) (i_in (a := ((V15 84 gf)).toInt) rfl (by (first | exact om_b03dc4e34d5a r12.2 r21.1 f47 | omega))) dX5_work_44 ?_
            have kc49 := i_clamp (x := (V15 84 gf)) rfl (by (first | exact om_eafa9039069c r21.1 | omega))
            refine g_top (v := V15 48 (8200 * b + (Int32.toNatClampNeg (V15 84 gf)))) (if_pos (by omega)) ?_
            refine g_top (v := (V 48 (8200 * b + (Int32.toNatClampNeg (V15 84 gf))))) (ajV15 48 (8200 * b + (Int32.toNatClampNeg (V15 84 gf))) rfl) ?_
            refine lv_istore (lv' := [(4, .int (V 48 (8200 * b + (Int32.toNatClampNeg (V15 84 gf))))), (3, .int y13), (2, .int y14), (0, .ref (ad 5)), (1, .ref (Z.fa gf))]) hx hb dX5_work_45 hl (by decide) rfl (fun ls hl => ?_)
            refine lv_aload_n hx hb dX5_work_47 rfl (lv_at hl 4 rfl) ?_
            refine lv_dup hx hb dX5_work_48 rfl ?_
            refine va_getN (D := D) (ci := 4) (v := .int (V15 84 gf)) (fs := (xfFrame V15 gf)) (C := RX4) (T := TX4) (N := 19) hx hb hg inX4 hown hK hP (336 + gf) (xgFrame hgf) rfl 17 (by decide) (hnw.use 1206 n1206 rfl) (fun _ h9 => h9) rfl dX5_work_49 ?_
            refine lv_iconst (v := 1) hx hb dX5_work_52 (by decide) ?_
            refine lv_iadd hx hb dX5_work_53 ?_
            refine lv_topi (fun z50 ez50 => ?_)
            have hz50 : z50.toInt = ((V15 84 gf)).toInt + 1 := i_add ez50 rfl (by decide) (by (first | exact om_f150dd2841b6 r12.2 r21.1 f47 | omega))
            refine va_putN (D := D) (ci := 4) (v := .int z50) (ty := tyX4 17) (fs := (xfFrame V15 gf)) (C := RX4) (T := TX4) (N := 19) hx hb hg inX4 tyX4 tyX4_ok nmX4 hown hK hP hD hS (336 + gf) (xgFrame hgf) rfl 17 (by decide) (hnw.use 1206 n1206 rfl) (fun _ h9 => h9) rfl (tyX4_ok 17 (by decide)) rfl rfl (Nat.le_of_ble_eq_true rfl) dX5_work_54 (fun H locs hP hD hS => ?_)
            obtain ⟨V51, hV51⟩ : ∃ z, z = up2 V15 84 gf z50 := ⟨_, rfl⟩
            have ew52 : (xw ad kk V15 L Z).set (336 + gf) ((Z.fa gf), .inr (4, (xfFrame V15 gf).set 17 (.int z50))) = xw ad kk V51 L Z := by rw [hV51]; exact xpFrame_at hgf
            have hP : va_P D vwCl (xw ad kk V51 L Z) H := by rw [← ew52]; exact hP
            have hD : va_D A (xw ad kk V51 L Z) := by rw [← ew52]; exact hD
            have hMV51 : rgd bX V51 := hMV15.put hV51 (show 0 ≤ z50.toInt ∧ z50.toInt ≤ 2147483647 from by (first | exact om_e35dbd57c2e4 r12.2 r21.1 f47 hz50 | omega))
            have agV51 : agr [(5, 6), (5, 7), (5, 9), (5, 10), (5, 11), (5, 12), (5, 13), (5, 14)] [39, 67, 68, 69, 70, 71, 72, 73, 74, 75, 76, 77, 78, 79, 80, 81, 82, 83, 84, 85] V V51 := agV15.up hV51 rfl
            have kat := i_clamp (x := V15 84 gf) rfl (by (first | exact om_eafa9039069c r21.1 | omega))
            have pq53 : (V15 48 (8200 * b + (Int32.toNatClampNeg (V15 84 gf)))).toInt = ((V 48 (8200 * b + (Int32.toNatClampNeg (V15 84 gf))))).toInt := congrArg Int32.toInt (ajV15 48 (8200 * b + (Int32.toNatClampNeg (V15 84 gf))) rfl)
            have hbd : (bdp V15 b (Int32.toNatClampNeg (V15 84 gf))).1 = true := by have q := ft.resolve_left (by omega); rw [show (V15 84 gf).toInt.toNat = (Int32.toNatClampNeg (V15 84 gf)) from by omega] at q; exact q
            have hco := mup.2.2.1.2 (Int32.toNatClampNeg (V15 84 gf)) (by omega) hbd
            have rwx9 : RW (up2 V51 84 gf (V15 84 gf)) gB (m2, ga, f2 :: gr) := by rw [up2_bk hV51]; exact rw9
            have op7 : (V 48 (8200 * b + (Int32.toNatClampNeg (V15 84 gf)))).toInt = (V51 48 (8200 * b + (Int32.toNatClampNeg (V15 84 gf)))).toInt := (congrArg Int32.toInt ((up2_o hV51 (by decide)).trans (ajV15 48 (8200 * b + (Int32.toNatClampNeg (V15 84 gf))) rfl))).symm
            have pq54 : (V51 84 gf).toInt = z50.toInt := congrArg Int32.toInt (up2_s hV51)
            refine lv_iload hx hb dX5_work_57 (lv_at hl 0 rfl) ?_
            refine lv_bipush (v := 10) hx hb dX5_work_59 (by decide) ?_
            refine lv_icmp_lt (tgt := 75) hx hb dX5_work_61 (by decide) (fun c55 => ?_) (fun c55 => ?_)
            · skip
              have f56 : ((V 48 (8200 * b + (Int32.toNatClampNeg (V15 84 gf))))).toInt < 10 := b_lt rfl (by decide) c55
              have atn : (V15 42 b).toInt ≤ z50.toInt ∨ (bdp V15 b z50.toInt.toNat).1 = true := Or.inr (by rw [show z50.toInt.toNat = (Int32.toNatClampNeg (V15 84 gf)) + 1 from by omega]; exact cd_lo hbd (by omega))
              refine lv_iload hx hb dX5_work_75 (lv_at hl 0 rfl) ?_
              refine lv_iconst (v := 5) hx hb dX5_work_77 (by decide) ?_
              refine lv_icmp_lt (tgt := 105) hx hb dX5_work_78 (by decide) (fun c57 => ?_) (fun c57 => ?_)
              · skip
                have f58 : ((V 48 (8200 * b + (Int32.toNatClampNeg (V15 84 gf))))).toInt < 5 := b_lt rfl (by decide) c57
                refine lv_aload_n hx hb dX5_work_105 rfl (lv_at hl 3 rfl) ?_
                refine lv_aload_n hx hb dX5_work_106 rfl (lv_at hl 4 rfl) ?_
                refine lv_iload hx hb dX5_work_107 (lv_at hl 0 rfl) ?_
                have pq59 : (V51 5 6).toInt = ((V15 5 6)).toInt := congrArg Int32.toInt (up2_o hV51 (by decide))
                have pq60 : (V51 67 gf).toInt = ((V15 67 gf)).toInt := congrArg Int32.toInt (up2_o hV51 (by decide))
                have pq61 : (V51 68 gf).toInt = ((V15 68 gf)).toInt := congrArg Int32.toInt (up2_o hV51 (by decide))
                have me62 : ME V15 V51 gf := (ME.up ME.rf hV51 (Or.inl ⟨by decide, by decide, Nat.le_refl _⟩))
                have pq63 : (V51 70 gf).toInt = ((V15 70 gf)).toInt := congrArg Int32.toInt (up2_o hV51 (by decide))
                have pq64 : (V51 71 gf).toInt = ((V15 71 gf)).toInt := congrArg Int32.toInt (up2_o hV51 (by decide))
                have pq65 : (V51 75 gf).toInt = ((V15 75 gf)).toInt := congrArg Int32.toInt (up2_o hV51 (by decide))
                have pq66 : (V51 76 gf).toInt = ((V15 76 gf)).toInt := congrArg Int32.toInt (up2_o hV51 (by decide))
                have pq67 : (V51 80 gf).toInt = ((V15 80 gf)).toInt := congrArg Int32.toInt (up2_o hV51 (by decide))
                have pq68 : (V51 5 8).toInt = ((V 5 8)).toInt := congrArg Int32.toInt ((up2_o hV51 (by decide)).trans (ajV15 5 8 rfl))
                have pq69 : (V51 5 9).toInt = ((V15 5 9)).toInt := congrArg Int32.toInt (up2_o hV51 (by decide))
                have pq70 : (V51 3 13).toInt = ((V 3 13)).toInt := congrArg Int32.toInt ((up2_o hV51 (by decide)).trans (ajV15 3 13 rfl))
                have pq71 : (V51 43 (5 * b + 2)).toInt = ((V 43 (5 * b + 2))).toInt := congrArg Int32.toInt ((up2_o hV51 (by decide)).trans (ajV15 43 (5 * b + 2) rfl))
                have pq72 : (V51 42 b).toInt = ((V 42 b)).toInt := congrArg Int32.toInt ((up2_o hV51 (by decide)).trans (ajV15 42 b rfl))
                have pq73 : (V51 41 b).toInt = ((V 41 b)).toInt := congrArg Int32.toInt ((up2_o hV51 (by decide)).trans (ajV15 41 b rfl))
                have af75 : (V51 42 b).toInt ≤ (V51 84 gf).toInt ∨ (bdp V51 b (V51 84 gf).toInt.toNat).1 = true := by rw [(up2_s hV51), me62.1.bd, me62.1 42 b (by decide) (by decide)]; exact atn
                have mo74 : MO V51 Z b gf True True True := MO.ch xlp16_0 me62 (up2_o hV51 (by decide)) (up2_o hV51 (by decide)) (fun _ => Or.inl (by omega)) (fun x h => FK.k4 (by omega) (by omega) (by omega) af75 (by omega) (fun hph => absurd hph (by omega)))
                have bc76 : BKc V51 b gB := BKc.b4 bc (agr.b4 (show agr [(5, 6), (5, 7), (5, 9), (5, 10), (5, 11), (5, 12), (5, 13), (5, 14)] [39, 67, 68, 69, 70, 71, 72, 73, 74, 75, 76, 77, 78, 79, 80, 81, 82, 83, 84, 85] V V51 from (agr.up (agr.tr agr.rf ajV15 (by decide) (by decide)) hV51 rfl)) (by decide))
                refine W.know (fun k78 k79 => ?_)
                obtain ⟨Hk77, hHk77⟩ : ∃ z, z = H := ⟨_, rfl⟩
                have k78 : Hk77.size ≤ s.heap.size + (zcc Z - zcc Z) := by rw [hHk77]; exact k78
                have k79 : tot Hk77 ≤ tot s.heap + (zss Z - zss Z) := by rw [hHk77]; exact k79
                refine gZ_int (gA_runV (As := [.ref (Z.fa gf), .int (V 48 (8200 * b + (Int32.toNatClampNeg (V15 84 gf))))]) (rest := []) (ci := 5) (q0 := 5) hx hb hml hown hg hP hD hK hS hA hnw hgk (x_worksAlone9 l D ks H.size ad kk V51 L Z (V 48 (8200 * b + (Int32.toNatClampNeg (V15 84 gf)))) (b) (gf) (gB) (m2) (ga) (f2) (gr) ((V15 84 gf)) hMV51 (show b < 2 from by (first | exact om_f940a4667dd6 hb2 | omega)) (show gf < Z.nf from by (first | exact om_8c5722e49bb1 hgf | omega)) mo74 (show (gf : Int) + 1 = (V51 5 6).toInt from by (first | exact om_6e5bbaaa0e03 xlp16_1 pq59 | omega)) (show (V51 67 gf).toInt = 4 from by (first | exact om_ac6651f4ff0c xlp16_2 pq60 | omega)) (show (V51 68 gf).toInt = 0 from by (first | exact om_36161e850215 xlp16_3 pq61 | omega)) rwx9 bc76 (GOs.sf go2) (show (V51 84 gf).toInt = (V15 84 gf).toInt + 1 from by (first | exact om_689eeacb6d53 hz50 pq54 | omega)) (show 0 ≤ (V15 84 gf).toInt from by (first | exact om_eafa9039069c r21.1 | omega)) op7 (show ((V 48 (8200 * b + (Int32.toNatClampNeg (V15 84 gf))))).toInt ≤ 4 from by (first | exact om_5a91d6933965 f58 | omega))) w1489 w1491 w77 w171 w1492 rfl xgMachine hdV_yX5_worksAlone ⟨Nat.le_of_ble_eq_true rfl, Nat.le_of_ble_eq_true rfl⟩ rfl hl.1 rfl (Nat.le_of_ble_eq_true rfl) dX5_work_109 ⟨z1 zoZ.1, z1 zoZ.2.1⟩) hD hS hA (fun z80 u81 H locs w82 hP hD hK hS y83 y84 => ?_)
                obtain ⟨V85, L86, Z87⟩ := u81
                obtain ⟨hMV85, ajV85, axL86, zlZ87, rgz80, t89, t90, t91, t92, t93⟩ := w82
                have axL86 : L = L86 := Eq.symm axL86
                subst axL86
                replace hP : va_P D vwCl (xw ad kk V85 L Z87) H := hP
                replace hD : va_D A (xw ad kk V85 L Z87) := hD
                replace hK : va_K D vwCl (xty kk Z87) s := hK
                replace hMV85 : rgd bX V85 := hMV85
                replace ajV85 : agr [(5, 6), (5, 7), (5, 9), (5, 10), (5, 13), (5, 14)] [39, 67, 68, 69, 70, 71, 72, 73, 74, 75, 76, 77, 78, 79, 80, 81, 82, 83, 84, 85] V51 V85 := ajV85
                have agV85 : agr [(5, 6), (5, 7), (5, 9), (5, 10), (5, 11), (5, 12), (5, 13), (5, 14)] [39, 67, 68, 69, 70, 71, 72, 73, 74, 75, 76, 77, 78, 79, 80, 81, 82, 83, 84, 85] V V85 := agV51.tr ajV85 (by decide) (by decide)
                replace zlZ87 : ZL Z Z87 := zlZ87
                have zoZ87 : ZL Z Z87 := ZL.tr zoZ zlZ87
                have ziZ87 := zlZ87.1
                have zjZ87 := zlZ87.2.1
                have zkZ87 := zlZ87.2.2.1
                have zmZ87 := zoZ87.1
                have znZ87 := zoZ87.2.1
                have zpZ_Z87 := zoZ.1
                have zqZ_Z87 := zoZ.2.1
                have y83 : H.size ≤ Hk77.size + (zcc Z - zcc Z87) := by rw [hHk77]; exact y83
                have y84 : tot H ≤ tot Hk77 + (zss Z - zss Z87) := by rw [hHk77]; exact y84
                refine W.tight (k := zcc Z - zcc Z87) (n := zss Z - zss Z87) (by first | exact tg9 y83 k78 zlZ87.1 zoZ.1 | omega) (by first | exact tg9 y84 k79 zlZ87.2.1 zoZ.2.1 | omega) ?_
                have hl : lv_has ls 6 [(4, .int (V 48 (8200 * b + (Int32.toNatClampNeg (V15 84 gf))))), (3, .int y13), (2, .int y14), (0, .ref (ad 5)), (1, .ref (Z87.fa gf))] := by rw [zlZ87.2.2.2.2 gf hgf]; exact hl
                replace rgz80 : 0 ≤ z80.toInt ∧ z80.toInt ≤ 1 := rgz80
                replace t89 : Imp (z80.toInt = 1) (MO V85 Z87 b gf True True True) := t89
                replace t90 : Imp (z80.toInt = 0) (MJ V85 Z87 b) := t90
                replace t91 : Imp (z80.toInt = 1) ((V85 5 6).toInt = (V51 5 6).toInt ∧ (V85 67 gf).toInt = 4 ∧ (V85 68 gf).toInt = 0) := t91
                replace t92 : Imp (z80.toInt = 1) (Z87 = Z) := t92
                replace t93 : (z80.toInt = 1 ∧ ∃ mz8 fz8, stM gB (m2, ga, f2 :: gr) = (mz8, ga, fz8 :: gr) ∧ RW V85 gB (mz8, ga, fz8 :: gr)) ∨ (z80.toInt = 0 ∧ RW V85 gB (stM gB (m2, ga, f2 :: gr))) := t93
                have r94 : 0 ≤ ((V85 5 6)).toInt ∧ ((V85 5 6)).toInt ≤ 400 := hMV85 5 6
                refine lv_istore_n (lv' := [(2, .int z80), (4, .int (V 48 (8200 * b + (Int32.toNatClampNeg (V15 84 gf))))), (3, .int y13), (0, .ref (ad 5)), (1, .ref (Z87.fa gf))]) hx hb dX5_work_112 rfl hl (by decide) rfl (fun ls hl => ?_)
                by_cases hr0 : z80.toInt = 0
                · skip
                  obtain ⟨z95, ez95⟩ : ∃ y : Int32, y = y13 + 1 := ⟨_, rfl⟩
                  have hz95 : z95.toInt = y13.toInt + 1 := i_add ez95 rfl (by decide) (by (first | exact om_f150dd2841b6 r12.2 klp16_0.1 f40 | omega))
                  refine lv_iinc (v := z95) (lv' := [(3, .int z95), (2, .int z80), (4, .int (V 48 (8200 * b + (Int32.toNatClampNeg (V15 84 gf))))), (0, .ref (ad 5)), (1, .ref (Z87.fa gf))]) hx hb dX5_work_113 hl (k := 2) rfl (by rw [ez95]; rfl) (by decide) rfl (fun ls hl => ?_)
                  refine lv_goto (tgt := 4) hx hb dX5_work_116 (by decide) ?_
                  refine lv_iload_n hx hb dX5_work_4 rfl (lv_at hl 1 rfl) ?_
                  refine lv_if_eq (tgt := 119) hx hb dX5_work_5 (by decide) (fun c96 => ?_) (fun c96 => ?_)
                  · skip
                    have f97 : z80.toInt = 0 := b_eq rfl (by decide) c96
                    refine W.know (fun kr1 kr2 => ?_)
                    refine W.widen (k := zcc Z) (n := zss Z) (Nat.sub_le _ _) (Nat.sub_le _ _) ?_
                    exact W.vret hx hb hr (fun t ht hW => ⟨⟨(V85, L, Z87), rfl, ⟨hMV85, agV85, rfl, zoZ87, (Imp.go t90 (by (first | exact om_b1799fcf2d63 rgz80.1 f97 | omega))), ⟨n9 + 1, by omega, (by rw [rnM_add, er9]; exact (t93.resolve_left (fun h9 => by have h8 := h9.1; omega)).2)⟩⟩, ⟨by rw [ht]; exact hP, va_K.moved hW.alike hK, hD⟩, by rw [ht]; exact kr1, by rw [ht]; exact kr2⟩, hS.F ht⟩) hS.2.2 dX5_work_119
                  · skip
                    have f98 : z80.toInt ≠ 0 := b_neq rfl (by decide) c96
                    exfalso; first | omega | ((try (have i_t91 := Imp.go t91 (by omega))); omega)
                · skip
                  have hr1 : z80.toInt = 1 := by omega
                  have ezz : Z87 = Z := Imp.go t92 hr1
                  have hP : va_P D vwCl (xw ad kk V85 L Z) H := by rw [← ezz]; exact hP
                  have hD : va_D A (xw ad kk V85 L Z) := by rw [← ezz]; exact hD
                  have hK : va_K D vwCl (xty kk Z) s := by rw [← ezz]; exact hK
                  have hl : lv_has ls 6 [(2, .int z80), (4, .int (V 48 (8200 * b + (Int32.toNatClampNeg (V15 84 gf))))), (3, .int y13), (0, .ref (ad 5)), (1, .ref (Z.fa gf))] := by rw [← ezz]; exact hl
                  rw [ezz]
                  have mo99 : MO V85 Z b gf True True True := by rw [← ezz]; exact Imp.go t89 hr1
                  have hpk := Imp.go t91 hr1
                  obtain ⟨z100, ez100⟩ : ∃ y : Int32, y = y13 + 1 := ⟨_, rfl⟩
                  have hz100 : z100.toInt = y13.toInt + 1 := i_add ez100 rfl (by decide) (by (first | exact om_f150dd2841b6 r12.2 klp16_0.1 f40 | omega))
                  refine lv_iinc (v := z100) (lv' := [(3, .int z100), (2, .int z80), (4, .int (V 48 (8200 * b + (Int32.toNatClampNeg (V15 84 gf))))), (0, .ref (ad 5)), (1, .ref (Z.fa gf))]) hx hb dX5_work_113 hl (k := 2) rfl (by rw [ez100]; rfl) (by decide) rfl (fun ls hl => ?_)
                  refine lv_goto (tgt := 4) hx hb dX5_work_116 (by decide) ?_
                  exact ihlp16 z100 z80 V85 H locs ls (by first | exact om_4c7236201e99 r12.2 klp16_0.1 f40 hz100 | first | omega | ((try (have i_t91 := Imp.go t91 (by omega))); omega)) (by first | exact om_e6bad570a1f1 rgz80.2 hr1 | first | omega | ((try (have i_t91 := Imp.go t91 (by omega))); omega)) mo99 (show (gf : Int) + 1 = (V85 5 6).toInt from by first | exact om_697b823fa352 xlp16_1 pq59 ((Imp.go t91 (hr1)).1) | first | omega | ((try (have i_t91 := Imp.go t91 (by omega))); omega)) (show (V85 67 gf).toInt = 4 from by first | exact om_c88e7ce0b8a2 ((Imp.go t91 (hr1)).2.1) | first | omega | ((try (have i_t91 := Imp.go t91 (by omega))); omega)) (show (V85 68 gf).toInt = 0 from by first | exact om_b66ba74381d5 ((Imp.go t91 (hr1)).2.2) | first | omega | ((try (have i_t91 := Imp.go t91 (by omega))); omega)) (by obtain ⟨m3, f3, e3, r3⟩ := (t93.resolve_right (fun h9 => by have h8 := h9.1; omega)).2; exact ⟨n9 + 1, m3, f3, (by rw [rnM_add, er9]; exact e3), r3, (by rw [← e3]; exact GOs.nx go2), Or.inr (by omega)⟩) (by first | exact om_5e93b663c12e hn hz100 | first | omega | ((try (have i_t91 := Imp.go t91 (by omega))); omega)) (agr.tr (agr.up (agr.tr agr.rf ajV15 (by decide) (by decide)) hV51 rfl) ajV85 (by decide) (by decide)) hMV85 hP hD hS (lv_sub hl [0, 1, 3, 4] rfl)
              · skip
                have f101 : 5 ≤ ((V 48 (8200 * b + (Int32.toNatClampNeg (V15 84 gf))))).toInt := b_nlt rfl (by decide) c57
                refine lv_aload_n hx hb dX5_work_81 rfl (lv_at hl 3 rfl) ?_
                refine gA_int (gA_runV (As := []) (rest := []) (ci := 5) (q0 := 5) hx hb hml hown hg hP hD hK hS hA hnw hgk (x_pull9 l D ks H.size ad kk V51 L Z  hMV51 ) w1482 w1484 w76 w171 w1485 rfl xgMachine hdV_yX5_pull ⟨Nat.le_of_ble_eq_true rfl, Nat.le_of_ble_eq_true rfl⟩ rfl hl.1 rfl (Nat.le_of_ble_eq_true rfl) dX5_work_82 ⟨z0, z0⟩) hP hD hK hS hA (fun z102 u103 H locs w104 hP hD hK hS => ?_)
                obtain ⟨V106, L107⟩ := u103
                obtain ⟨hMV106, ajV106, axL107, t105⟩ := w104
                have axL107 : L = L107 := Eq.symm axL107
                subst axL107
                replace hP : va_P D vwCl (xw ad kk V106 L Z) H := hP
                replace hD : va_D A (xw ad kk V106 L Z) := hD
                replace hMV106 : rgd bX V106 := hMV106
                replace ajV106 : agr [(5, 7)] [] V51 V106 := ajV106
                have agV106 : agr [(5, 6), (5, 7), (5, 9), (5, 10), (5, 11), (5, 12), (5, 13), (5, 14)] [39, 67, 68, 69, 70, 71, 72, 73, 74, 75, 76, 77, 78, 79, 80, 81, 82, 83, 84, 85] V V106 := agV51.tr ajV106 (by decide) (by decide)
                replace t105 : ((0 < (V51 5 7).toInt ∧ z102 = V51 39 (Int32.toNatClampNeg (V51 5 7 - 1))) ∧ V106 = (up2 V51 5 7 (V51 5 7 - 1))) ∨ (((V51 5 7).toInt ≤ 0 ∧ z102 = 0) ∧ V106 = V51) := t105
                rcases t105 with ⟨hc108, hw109⟩ | ⟨hc110, hw111⟩
                · skip
                  have pq113 : (V51 5 7).toInt = ((V15 5 7)).toInt := congrArg Int32.toInt (up2_o hV51 (by decide))
                  have r114 : 0 ≤ ((V15 5 7)).toInt ∧ ((V15 5 7)).toInt ≤ 2048 := hMV15 5 7
                  obtain ⟨z112, ez112⟩ : ∃ y : Int32, y = V51 5 7 - 1 := ⟨_, rfl⟩
                  have hz112 : z112.toInt = (V51 5 7).toInt - 1 := i_sub ez112 rfl (by decide) (by (first | exact om_dc2ce737465e pq113 r114.1 r114.2 | omega))
                  have hV106 : V106 = up2 V51 5 7 z112 := by rw [hw109, ez112]
                  refine lv_istore (lv' := [(5, .int z102), (4, .int (V 48 (8200 * b + (Int32.toNatClampNeg (V15 84 gf))))), (3, .int y13), (2, .int y14), (0, .ref (ad 5)), (1, .ref (Z.fa gf))]) hx hb dX5_work_85 hl (by decide) rfl (fun ls hl => ?_)
                  refine lv_aload_n hx hb dX5_work_87 rfl (lv_at hl 4 rfl) ?_
                  refine lv_iload hx hb dX5_work_88 (lv_at hl 1 rfl) ?_
                  refine lv_aload_n hx hb dX5_work_90 rfl (lv_at hl 4 rfl) ?_
                  refine gA_int (gA_runV (As := []) (rest := [.int (V 48 (8200 * b + (Int32.toNatClampNeg (V15 84 gf)))), .ref (ad 5)]) (ci := 5) (q0 := 5) hx hb hml hown hg hP hD hK hS hA hnw hgk (x_pull9 l D ks H.size ad kk V106 L Z  hMV106 ) w1482 w1484 w76 w171 w1485 rfl xgMachine hdV_yX5_pull ⟨Nat.le_of_ble_eq_true rfl, Nat.le_of_ble_eq_true rfl⟩ rfl hl.1 rfl (Nat.le_of_ble_eq_true rfl) dX5_work_91 ⟨z0, z0⟩) hP hD hK hS hA (fun z115 u116 H locs w117 hP hD hK hS => ?_)
                  obtain ⟨V119, L120⟩ := u116
                  obtain ⟨hMV119, ajV119, axL120, t118⟩ := w117
                  have axL120 : L = L120 := Eq.symm axL120
                  subst axL120
                  replace hP : va_P D vwCl (xw ad kk V119 L Z) H := hP
                  replace hD : va_D A (xw ad kk V119 L Z) := hD
                  replace hMV119 : rgd bX V119 := hMV119
                  replace ajV119 : agr [(5, 7)] [] V106 V119 := ajV119
                  have agV119 : agr [(5, 6), (5, 7), (5, 9), (5, 10), (5, 11), (5, 12), (5, 13), (5, 14)] [39, 67, 68, 69, 70, 71, 72, 73, 74, 75, 76, 77, 78, 79, 80, 81, 82, 83, 84, 85] V V119 := agV106.tr ajV119 (by decide) (by decide)
                  replace t118 : ((0 < (V106 5 7).toInt ∧ z115 = V106 39 (Int32.toNatClampNeg (V106 5 7 - 1))) ∧ V119 = (up2 V106 5 7 (V106 5 7 - 1))) ∨ (((V106 5 7).toInt ≤ 0 ∧ z115 = 0) ∧ V119 = V106) := t118
                  rcases t118 with ⟨hc121, hw122⟩ | ⟨hc123, hw124⟩
                  · skip
                    have pq126 : (V106 5 7).toInt = z112.toInt := congrArg Int32.toInt (up2_s hV106)
                    obtain ⟨z125, ez125⟩ : ∃ y : Int32, y = V106 5 7 - 1 := ⟨_, rfl⟩
                    have hz125 : z125.toInt = (V106 5 7).toInt - 1 := i_sub ez125 rfl (by decide) (by (first | exact om_9abcaebda219 pq113 r114.1 r114.2 hz112 pq126 | omega))
                    have hV119 : V119 = up2 V106 5 7 z125 := by rw [hw122, ez125]
                    refine lv_iload hx hb dX5_work_94 (lv_at hl 0 rfl) ?_
                    refine gE_int (g_runS (As := [.int (V 48 (8200 * b + (Int32.toNatClampNeg (V15 84 gf)))), .int z115, .int z102]) (rest := [.ref (ad 5)]) (wc := []) (tc := []) hx hb hml hown hg gw_self hP hD hK hS hA hnw hgk [] [] (by decide) rfl rfl (x_compute9 l D ks H.size (V 48 (8200 * b + (Int32.toNatClampNeg (V15 84 gf)))) z115 z102 ) w1486 w1487 w171 w1488 hdS_yX5_compute ⟨Nat.le_of_ble_eq_true rfl, Nat.le_of_ble_eq_true rfl⟩ rfl hl.1 rfl (Nat.le_of_ble_eq_true rfl) dX5_work_96 ⟨z0, z0⟩) hP hD hK hS hA (fun z127 u128 H locs w129 hP hD hK hS => ?_)
                    have t130 := w129
                    replace t130 : (((V 48 (8200 * b + (Int32.toNatClampNeg (V15 84 gf))))).toInt = 5 → z127 = z115 + z102) ∧ (((V 48 (8200 * b + (Int32.toNatClampNeg (V15 84 gf))))).toInt = 6 → z127 = z115 - z102) ∧ (((V 48 (8200 * b + (Int32.toNatClampNeg (V15 84 gf))))).toInt = 7 → z127 = z115 * z102) ∧ (((V 48 (8200 * b + (Int32.toNatClampNeg (V15 84 gf))))).toInt = 8 → z127 = (if z115.toInt < z102.toInt then 1 else 0)) ∧ (9 ≤ ((V 48 (8200 * b + (Int32.toNatClampNeg (V15 84 gf))))).toInt → z127 = (if z115 = z102 then 1 else 0)) := t130
                    refine gA_void (gA_runV (As := [.int z127]) (rest := []) (ci := 5) (q0 := 5) hx hb hml hown hg hP hD hK hS hA hnw hgk (x_put9 l D ks H.size ad kk V119 L Z z127 hMV119 ) w1466 w1468 w72 w171 w1469 rfl xgMachine hdV_yX5_put ⟨Nat.le_of_ble_eq_true rfl, Nat.le_of_ble_eq_true rfl⟩ rfl hl.1 rfl (Nat.le_of_ble_eq_true rfl) dX5_work_99 ⟨z0, z0⟩) hP hD hK hS hA (fun u132 H locs w133 hP hD hK hS => ?_)
                    obtain ⟨V135, L136⟩ := u132
                    obtain ⟨hMV135, ajV135, axL136, t134⟩ := w133
                    have axL136 : L = L136 := Eq.symm axL136
                    subst axL136
                    replace hP : va_P D vwCl (xw ad kk V135 L Z) H := hP
                    replace hD : va_D A (xw ad kk V135 L Z) := hD
                    replace hMV135 : rgd bX V135 := hMV135
                    replace ajV135 : agr [(5, 7)] [39] V119 V135 := ajV135
                    have agV135 : agr [(5, 6), (5, 7), (5, 9), (5, 10), (5, 11), (5, 12), (5, 13), (5, 14)] [39, 67, 68, 69, 70, 71, 72, 73, 74, 75, 76, 77, 78, 79, 80, 81, 82, 83, 84, 85] V V135 := agV119.tr ajV135 (by decide) (by decide)
                    replace t134 : (((V119 5 7).toInt < 2048) ∧ V135 = (up2 (up2 V119 5 7 (V119 5 7 + 1)) 39 (Int32.toNatClampNeg (V119 5 7)) z127)) ∨ ((2048 ≤ (V119 5 7).toInt) ∧ V135 = V119) := t134
                    rcases t134 with ⟨hc137, hw138⟩ | ⟨hc139, hw140⟩
                    · skip
                      have pq142 : (V119 5 7).toInt = z125.toInt := congrArg Int32.toInt (up2_s hV119)
                      obtain ⟨z141, ez141⟩ : ∃ y : Int32, y = V119 5 7 + 1 := ⟨_, rfl⟩
                      have hz141 : z141.toInt = (V119 5 7).toInt + 1 := i_add ez141 rfl (by decide) (by (first | exact om_0064dfce3c7a pq113 r114.1 r114.2 hz112 pq126 hz125 pq142 | omega))
                      obtain ⟨V143, hV143⟩ : ∃ z, z = up2 V119 5 7 z141 := ⟨_, rfl⟩
                      have hV135 : V135 = up2 V143 39 (Int32.toNatClampNeg (V119 5 7)) z127 := by rw [hw138, hV143, ez141]
                      refine lv_goto (tgt := 113) hx hb dX5_work_102 (by decide) ?_
                      obtain ⟨z144, ez144⟩ : ∃ y : Int32, y = y13 + 1 := ⟨_, rfl⟩
                      have hz144 : z144.toInt = y13.toInt + 1 := i_add ez144 rfl (by decide) (by (first | exact om_f150dd2841b6 r12.2 klp16_0.1 f40 | omega))
                      refine lv_iinc (v := z144) (lv' := [(3, .int z144), (5, .int z102), (4, .int (V 48 (8200 * b + (Int32.toNatClampNeg (V15 84 gf))))), (2, .int y14), (0, .ref (ad 5)), (1, .ref (Z.fa gf))]) hx hb dX5_work_113 hl (k := 2) rfl (by rw [ez144]; rfl) (by decide) rfl (fun ls hl => ?_)
                      refine lv_goto (tgt := 4) hx hb dX5_work_116 (by decide) ?_
                      have pq145 : (V135 5 6).toInt = ((V15 5 6)).toInt := congrArg Int32.toInt ((up2_o hV135 (by decide)).trans ((up2_k hV143 (by decide)).trans ((up2_k hV119 (by decide)).trans ((up2_k hV106 (by decide)).trans (up2_o hV51 (by decide))))))
                      have pq146 : (V135 67 gf).toInt = ((V15 67 gf)).toInt := congrArg Int32.toInt ((up2_o hV135 (by decide)).trans ((up2_o hV143 (by decide)).trans ((up2_o hV119 (by decide)).trans ((up2_o hV106 (by decide)).trans (up2_o hV51 (by decide))))))
                      have pq147 : (V135 68 gf).toInt = ((V15 68 gf)).toInt := congrArg Int32.toInt ((up2_o hV135 (by decide)).trans ((up2_o hV143 (by decide)).trans ((up2_o hV119 (by decide)).trans ((up2_o hV106 (by decide)).trans (up2_o hV51 (by decide))))))
                      have me148 : ME V15 V135 gf := (ME.up (ME.up (ME.up (ME.up (ME.up ME.rf hV51 (Or.inl ⟨by decide, by decide, Nat.le_refl _⟩)) hV106 (Or.inr (by omega))) hV119 (Or.inr (by omega))) hV143 (Or.inr (by omega))) hV135 (Or.inr (by omega)))
                      have pq149 : (V135 70 gf).toInt = ((V15 70 gf)).toInt := congrArg Int32.toInt ((up2_o hV135 (by decide)).trans ((up2_o hV143 (by decide)).trans ((up2_o hV119 (by decide)).trans ((up2_o hV106 (by decide)).trans (up2_o hV51 (by decide))))))
                      have pq150 : (V135 71 gf).toInt = ((V15 71 gf)).toInt := congrArg Int32.toInt ((up2_o hV135 (by decide)).trans ((up2_o hV143 (by decide)).trans ((up2_o hV119 (by decide)).trans ((up2_o hV106 (by decide)).trans (up2_o hV51 (by decide))))))
                      have pq151 : (V135 75 gf).toInt = ((V15 75 gf)).toInt := congrArg Int32.toInt ((up2_o hV135 (by decide)).trans ((up2_o hV143 (by decide)).trans ((up2_o hV119 (by decide)).trans ((up2_o hV106 (by decide)).trans (up2_o hV51 (by decide))))))
                      have pq152 : (V135 76 gf).toInt = ((V15 76 gf)).toInt := congrArg Int32.toInt ((up2_o hV135 (by decide)).trans ((up2_o hV143 (by decide)).trans ((up2_o hV119 (by decide)).trans ((up2_o hV106 (by decide)).trans (up2_o hV51 (by decide))))))
                      have pq153 : (V135 80 gf).toInt = ((V15 80 gf)).toInt := congrArg Int32.toInt ((up2_o hV135 (by decide)).trans ((up2_o hV143 (by decide)).trans ((up2_o hV119 (by decide)).trans ((up2_o hV106 (by decide)).trans (up2_o hV51 (by decide))))))
                      have pq154 : (V135 84 gf).toInt = z50.toInt := congrArg Int32.toInt ((up2_o hV135 (by decide)).trans ((up2_o hV143 (by decide)).trans ((up2_o hV119 (by decide)).trans ((up2_o hV106 (by decide)).trans (up2_s hV51)))))
                      have pq155 : (V135 5 8).toInt = ((V 5 8)).toInt := congrArg Int32.toInt ((up2_o hV135 (by decide)).trans ((up2_k hV143 (by decide)).trans ((up2_k hV119 (by decide)).trans ((up2_k hV106 (by decide)).trans ((up2_o hV51 (by decide)).trans (ajV15 5 8 rfl))))))
                      have pq156 : (V135 5 9).toInt = ((V15 5 9)).toInt := congrArg Int32.toInt ((up2_o hV135 (by decide)).trans ((up2_k hV143 (by decide)).trans ((up2_k hV119 (by decide)).trans ((up2_k hV106 (by decide)).trans (up2_o hV51 (by decide))))))
                      have pq157 : (V135 3 13).toInt = ((V 3 13)).toInt := congrArg Int32.toInt ((up2_o hV135 (by decide)).trans ((up2_o hV143 (by decide)).trans ((up2_o hV119 (by decide)).trans ((up2_o hV106 (by decide)).trans ((up2_o hV51 (by decide)).trans (ajV15 3 13 rfl))))))
                      have pq158 : (V135 43 (5 * b + 2)).toInt = ((V 43 (5 * b + 2))).toInt := congrArg Int32.toInt ((up2_o hV135 (by decide)).trans ((up2_o hV143 (by decide)).trans ((up2_o hV119 (by decide)).trans ((up2_o hV106 (by decide)).trans ((up2_o hV51 (by decide)).trans (ajV15 43 (5 * b + 2) rfl))))))
                      have pq159 : (V135 42 b).toInt = ((V 42 b)).toInt := congrArg Int32.toInt ((up2_o hV135 (by decide)).trans ((up2_o hV143 (by decide)).trans ((up2_o hV119 (by decide)).trans ((up2_o hV106 (by decide)).trans ((up2_o hV51 (by decide)).trans (ajV15 42 b rfl))))))
                      have pq160 : (V135 41 b).toInt = ((V 41 b)).toInt := congrArg Int32.toInt ((up2_o hV135 (by decide)).trans ((up2_o hV143 (by decide)).trans ((up2_o hV119 (by decide)).trans ((up2_o hV106 (by decide)).trans ((up2_o hV51 (by decide)).trans (ajV15 41 b rfl))))))
                      have ep163 : V135 84 gf = z50 := ((up2_o hV135 (by decide)).trans ((up2_o hV143 (by decide)).trans ((up2_o hV119 (by decide)).trans ((up2_o hV106 (by decide)).trans (up2_s hV51)))))
                      have af162 : (V135 42 b).toInt ≤ (V135 84 gf).toInt ∨ (bdp V135 b (V135 84 gf).toInt.toNat).1 = true := by rw [ep163, me148.1.bd, me148.1 42 b (by decide) (by decide)]; exact atn
                      have mo161 : MO V135 Z b gf True True True := MO.ch xlp16_0 me148 ((up2_o hV135 (by decide)).trans ((up2_o hV143 (by decide)).trans ((up2_o hV119 (by decide)).trans ((up2_o hV106 (by decide)).trans (up2_o hV51 (by decide)))))) ((up2_o hV135 (by decide)).trans ((up2_o hV143 (by decide)).trans ((up2_o hV119 (by decide)).trans ((up2_o hV106 (by decide)).trans (up2_o hV51 (by decide)))))) (fun _ => Or.inl (by omega)) (fun x h => FK.k4 (by omega) (by omega) (by omega) af162 (by omega) (fun hph => absurd hph (by omega)))
                      have op9 := OQ.op oq9
                      have cd9 := (bc28).1.2 at9.toNat hi9
                      have ka9 : Int32.toNatClampNeg (V15 84 gf) = psz (opf gB.1) at9.toNat := by have h9 := i_clamp (x := V15 84 gf) rfl (by (first | exact om_eafa9039069c r21.1 | omega)); omega
                      have c48 : (V 48 (8200 * b + (Int32.toNatClampNeg (V15 84 gf)))).toInt = enO (opf gB.1 at9.toNat) := by have h9 := cd9.1; rw [← ka9] at h9; exact (congrArg Int32.toInt (ajV15 48 (8200 * b + (Int32.toNatClampNeg (V15 84 gf))) rfl)).symm.trans h9
                      have en9 : 5 ≤ opf gB.1 at9.toNat ∧ opf gB.1 at9.toNat ≤ 9 := enO_59 op9 (by rw [← c48]; omega) (by rw [← c48]; omega)
                      obtain ⟨t8, lp9, q8, oq8⟩ := OQ.i5 oq9 en9
                      obtain ⟨x9, y9, p9, hpe⟩ : ∃ x9 y9 p9, p = x9 :: y9 :: p9 := by rcases p with _ | ⟨x, _ | ⟨y, q⟩⟩; (exact absurd lp9 (by simp)); (exact absurd lp9 (by simp)); exact ⟨x, y, q, rfl⟩
                      have tl9 : ∃ t : Nat, (V15 5 7).toInt = ((t : Nat) : Int) ∧ 2 ≤ t ∧ t ≤ 2000 := by obtain ⟨_, _, _, t, ht, t0, h1, _⟩ := id rw9; have h2 := RWl.tot (show RWl V15 gB (f2 :: gr) t from by obtain ⟨_, _, _, t7, ht7, hl7⟩ := rw9; rw [show t = t7 from by omega]; exact hl7); have h3 : totP (f2 :: gr) ≤ 2000 := (GOs.sf go2).2.1; rw [hfe, hpe] at h1; have h4 : t = t0 + (p9.length + 1 + 1) := h1; exact ⟨t, ht, by omega, by omega⟩
                      obtain ⟨tw9, ht9, tg9, tm9⟩ := tl9
                      obtain ⟨t7, pc0, pc1, pc2, pc3⟩ : ∃ t7 : Nat, tw9 = t7 + 2 ∧ V15 39 (t7 + 1) = x9 ∧ V15 39 t7 = y9 ∧ True := by obtain ⟨_, _, _, t, ht, t0, h1, _, _, h4, _⟩ := rw9; rw [hfe, hpe] at h4; obtain ⟨s1, g1, g2, s2, g3, g4, g5⟩ := h4; exact ⟨s2, by omega, by rw [← g3]; exact g2, g4, trivial⟩
                      have czx0 : Int32.toNatClampNeg (V51 5 7 - 1) = t7 + 1 := by have h9 : (V51 5 7 - 1).toInt = (V51 5 7).toInt - 1 := i_sub rfl rfl (by decide) (by omega); have h8 := i_clamp (x := V51 5 7 - 1) rfl (by omega); omega
                      have zx0 : z102 = x9 := by rw [hc108.2, czx0, (up2_o hV51 (by decide))]; exact pc1
                      have czx1 : Int32.toNatClampNeg (V106 5 7 - 1) = t7 := by have h9 : (V106 5 7 - 1).toInt = (V106 5 7).toInt - 1 := i_sub rfl rfl (by decide) (by omega); have h8 := i_clamp (x := V106 5 7 - 1) rfl (by omega); omega
                      have zx1 : z115 = y9 := by rw [hc121.2, czx1, ((up2_o hV106 (by decide)).trans (up2_o hV51 (by decide)))]; exact pc2
                      have tx9 : (Int32.toNatClampNeg (V119 5 7)) = t7 := by have h9 := i_clamp (x := V119 5 7) rfl (by (first | exact om_d5509f43c940 hc121.1 hz125 pq142 | omega)); omega
                      have cp9 := t130
                      rw [zx0, zx1] at cp9
                      have pq164 : (V135 5 7).toInt = z141.toInt := congrArg Int32.toInt ((up2_o hV135 (by decide)).trans (up2_s hV143))
                      have rw8 := rw9
                      rw [hfe, hpe] at rw8
                      have p84 : psz (opf gB.1) (at9.toNat + 1) = psz (opf gB.1) at9.toNat + 1 := psz_1 (show opf gB.1 at9.toNat ≠ 2 ∧ ¬ (10 ≤ opf gB.1 at9.toNat ∧ opf gB.1 at9.toNat ≤ 14) from by omega)
                      have rc9 : RW V135 gB (m2, ga, Fwork lv o c sc me ps ((at9.toNat + 1 : Nat) : Int) v (z127 :: p9) :: gr) := RW.cmp (val := z127) rw8 (by rw [gl9]; omega) p84 (by omega) (fun j9 hj9 => by rw [show j9 = (Int32.toNatClampNeg (V119 5 7)) from by omega]; exact (up2_s hV135)) (fun j9 hj9 => ((up2_k hV135 (by omega)).trans ((up2_o hV143 (by decide)).trans ((up2_o hV119 (by decide)).trans ((up2_o hV106 (by decide)).trans (up2_o hV51 (by decide))))))) (fun c9 k9 h1 h2 h3 => ((show V135 c9 k9 = V143 c9 k9 from by rw [hV135]; exact up2_pl (by omega)).trans ((show V143 c9 k9 = V119 c9 k9 from by rw [hV143]; exact up2_pl (by omega)).trans ((show V119 c9 k9 = V106 c9 k9 from by rw [hV119]; exact up2_pl (by omega)).trans ((show V106 c9 k9 = V51 c9 k9 from by rw [hV106]; exact up2_pl (by omega)).trans (show V51 c9 k9 = V15 c9 k9 from by rw [hV51]; exact up2_pl (by omega)))))))
                      have sc9 : stM gB (m2, ga, f2 :: gr) = (m2, ga, Fwork lv o c sc me ps ((at9.toNat + 1 : Nat) : Int) v (z127 :: p9) :: gr) := by
                        rw [hfe, hpe]
                        rcases (show opf gB.1 at9.toNat = 5 ∨ opf gB.1 at9.toNat = 6 ∨ opf gB.1 at9.toNat = 7 ∨ opf gB.1 at9.toNat = 8 ∨ opf gB.1 at9.toNat = 9 from by (first | exact om_b778179c5db5 en9.1 en9.2 | omega)) with o9 | o9 | o9 | o9 | o9
                        · rw [st_12.trans (or_5 o9), cp9.2.2.1 (by rw [c48, o9]; decide)]; rfl
                        · rw [st_12.trans (or_6 o9), cp9.1 (by rw [c48, o9]; decide)]; rfl
                        · rw [st_12.trans (or_7 o9), cp9.2.1 (by rw [c48, o9]; decide)]; rfl
                        · rw [st_12.trans (or_8 o9), cp9.2.2.2.1 (by rw [c48, o9]; decide)]; rfl
                        · rw [st_12.trans (or_9 o9), cp9.2.2.2.2 (by rw [c48, o9]; decide)]; rfl
                      exact ihlp16 z144 y14 V135 H locs ls (by (first | exact om_4c7236201e99 r12.2 klp16_0.1 f40 hz144 | omega)) (by (first | exact om_1b1f2d1cff90 klp16_1.1 klp16_1.2 | omega)) mo161 (show (gf : Int) + 1 = (V135 5 6).toInt from by (first | exact om_6e5bbaaa0e03 xlp16_1 pq145 | omega)) (show (V135 67 gf).toInt = 4 from by (first | exact om_ac6651f4ff0c xlp16_2 pq146 | omega)) (show (V135 68 gf).toInt = 0 from by (first | exact om_36161e850215 xlp16_3 pq147 | omega)) ⟨n9 + 1, m2, _, (by rw [rnM_add, er9]; exact sc9), rc9, (by rw [← sc9]; exact GOs.nx go2), Or.inr (by omega)⟩ (by (first | exact om_5e93b663c12e hn hz144 | omega)) (agr.up (agr.up (agr.up (agr.up (agr.up (agr.tr agr.rf ajV15 (by decide) (by decide)) hV51 rfl) hV106 rfl) hV119 rfl) hV143 rfl) hV135 rfl) hMV135 hP hD hS (lv_sub hl [0, 3, 4, 5] rfl)
                    · skip
                      have ajV135 : agr [] [] V119 V135 := by rw [hw140]; exact agr.rf
                      refine lv_goto (tgt := 113) hx hb dX5_work_102 (by decide) ?_
                      obtain ⟨z165, ez165⟩ : ∃ y : Int32, y = y13 + 1 := ⟨_, rfl⟩
                      have hz165 : z165.toInt = y13.toInt + 1 := i_add ez165 rfl (by decide) (by (first | exact om_f150dd2841b6 r12.2 klp16_0.1 f40 | omega))
                      refine lv_iinc (v := z165) (lv' := [(3, .int z165), (5, .int z102), (4, .int (V 48 (8200 * b + (Int32.toNatClampNeg (V15 84 gf))))), (2, .int y14), (0, .ref (ad 5)), (1, .ref (Z.fa gf))]) hx hb dX5_work_113 hl (k := 2) rfl (by rw [ez165]; rfl) (by decide) rfl (fun ls hl => ?_)
                      refine lv_goto (tgt := 4) hx hb dX5_work_116 (by decide) ?_
                      have pq166 : (V135 5 6).toInt = ((V15 5 6)).toInt := congrArg Int32.toInt ((ajV135 5 6 rfl).trans ((up2_k hV119 (by decide)).trans ((up2_k hV106 (by decide)).trans (up2_o hV51 (by decide)))))
                      have pq167 : (V135 67 gf).toInt = ((V15 67 gf)).toInt := congrArg Int32.toInt ((ajV135 67 gf rfl).trans ((up2_o hV119 (by decide)).trans ((up2_o hV106 (by decide)).trans (up2_o hV51 (by decide)))))
                      have pq168 : (V135 68 gf).toInt = ((V15 68 gf)).toInt := congrArg Int32.toInt ((ajV135 68 gf rfl).trans ((up2_o hV119 (by decide)).trans ((up2_o hV106 (by decide)).trans (up2_o hV51 (by decide)))))
                      have me169 : ME V15 V135 gf := (ME.tr (ME.up (ME.up (ME.up ME.rf hV51 (Or.inl ⟨by decide, by decide, Nat.le_refl _⟩)) hV106 (Or.inr (by omega))) hV119 (Or.inr (by omega))) (ME.ag ajV135 (by decide)))
                      have pq170 : (V135 70 gf).toInt = ((V15 70 gf)).toInt := congrArg Int32.toInt ((ajV135 70 gf rfl).trans ((up2_o hV119 (by decide)).trans ((up2_o hV106 (by decide)).trans (up2_o hV51 (by decide)))))
                      have pq171 : (V135 71 gf).toInt = ((V15 71 gf)).toInt := congrArg Int32.toInt ((ajV135 71 gf rfl).trans ((up2_o hV119 (by decide)).trans ((up2_o hV106 (by decide)).trans (up2_o hV51 (by decide)))))
                      have pq172 : (V135 75 gf).toInt = ((V15 75 gf)).toInt := congrArg Int32.toInt ((ajV135 75 gf rfl).trans ((up2_o hV119 (by decide)).trans ((up2_o hV106 (by decide)).trans (up2_o hV51 (by decide)))))
                      have pq173 : (V135 76 gf).toInt = ((V15 76 gf)).toInt := congrArg Int32.toInt ((ajV135 76 gf rfl).trans ((up2_o hV119 (by decide)).trans ((up2_o hV106 (by decide)).trans (up2_o hV51 (by decide)))))
                      have pq174 : (V135 80 gf).toInt = ((V15 80 gf)).toInt := congrArg Int32.toInt ((ajV135 80 gf rfl).trans ((up2_o hV119 (by decide)).trans ((up2_o hV106 (by decide)).trans (up2_o hV51 (by decide)))))
                      have pq175 : (V135 84 gf).toInt = z50.toInt := congrArg Int32.toInt ((ajV135 84 gf rfl).trans ((up2_o hV119 (by decide)).trans ((up2_o hV106 (by decide)).trans (up2_s hV51))))
                      have pq176 : (V135 5 8).toInt = ((V 5 8)).toInt := congrArg Int32.toInt ((ajV135 5 8 rfl).trans ((up2_k hV119 (by decide)).trans ((up2_k hV106 (by decide)).trans ((up2_o hV51 (by decide)).trans (ajV15 5 8 rfl)))))
                      have pq177 : (V135 5 9).toInt = ((V15 5 9)).toInt := congrArg Int32.toInt ((ajV135 5 9 rfl).trans ((up2_k hV119 (by decide)).trans ((up2_k hV106 (by decide)).trans (up2_o hV51 (by decide)))))
                      have pq178 : (V135 3 13).toInt = ((V 3 13)).toInt := congrArg Int32.toInt ((ajV135 3 13 rfl).trans ((up2_o hV119 (by decide)).trans ((up2_o hV106 (by decide)).trans ((up2_o hV51 (by decide)).trans (ajV15 3 13 rfl)))))
                      have pq179 : (V135 43 (5 * b + 2)).toInt = ((V 43 (5 * b + 2))).toInt := congrArg Int32.toInt ((ajV135 43 (5 * b + 2) rfl).trans ((up2_o hV119 (by decide)).trans ((up2_o hV106 (by decide)).trans ((up2_o hV51 (by decide)).trans (ajV15 43 (5 * b + 2) rfl)))))
                      have pq180 : (V135 42 b).toInt = ((V 42 b)).toInt := congrArg Int32.toInt ((ajV135 42 b rfl).trans ((up2_o hV119 (by decide)).trans ((up2_o hV106 (by decide)).trans ((up2_o hV51 (by decide)).trans (ajV15 42 b rfl)))))
                      have pq181 : (V135 41 b).toInt = ((V 41 b)).toInt := congrArg Int32.toInt ((ajV135 41 b rfl).trans ((up2_o hV119 (by decide)).trans ((up2_o hV106 (by decide)).trans ((up2_o hV51 (by decide)).trans (ajV15 41 b rfl)))))
                      have ep184 : V135 84 gf = z50 := ((ajV135 84 gf rfl).trans ((up2_o hV119 (by decide)).trans ((up2_o hV106 (by decide)).trans (up2_s hV51))))
                      have af183 : (V135 42 b).toInt ≤ (V135 84 gf).toInt ∨ (bdp V135 b (V135 84 gf).toInt.toNat).1 = true := by rw [ep184, me169.1.bd, me169.1 42 b (by decide) (by decide)]; exact atn
                      have mo182 : MO V135 Z b gf True True True := MO.ch xlp16_0 me169 ((ajV135 67 gf rfl).trans ((up2_o hV119 (by decide)).trans ((up2_o hV106 (by decide)).trans (up2_o hV51 (by decide))))) ((ajV135 80 gf rfl).trans ((up2_o hV119 (by decide)).trans ((up2_o hV106 (by decide)).trans (up2_o hV51 (by decide))))) (fun _ => Or.inl (by omega)) (fun x h => FK.k4 (by omega) (by omega) (by omega) af183 (by omega) (fun hph => absurd hph (by omega)))
                      have op9 := OQ.op oq9
                      have cd9 := (bc28).1.2 at9.toNat hi9
                      have ka9 : Int32.toNatClampNeg (V15 84 gf) = psz (opf gB.1) at9.toNat := by have h9 := i_clamp (x := V15 84 gf) rfl (by (first | exact om_eafa9039069c r21.1 | omega)); omega
                      have c48 : (V 48 (8200 * b + (Int32.toNatClampNeg (V15 84 gf)))).toInt = enO (opf gB.1 at9.toNat) := by have h9 := cd9.1; rw [← ka9] at h9; exact (congrArg Int32.toInt (ajV15 48 (8200 * b + (Int32.toNatClampNeg (V15 84 gf))) rfl)).symm.trans h9
                      have en9 : 5 ≤ opf gB.1 at9.toNat ∧ opf gB.1 at9.toNat ≤ 9 := enO_59 op9 (by rw [← c48]; omega) (by rw [← c48]; omega)
                      obtain ⟨t8, lp9, q8, oq8⟩ := OQ.i5 oq9 en9
                      obtain ⟨x9, y9, p9, hpe⟩ : ∃ x9 y9 p9, p = x9 :: y9 :: p9 := by rcases p with _ | ⟨x, _ | ⟨y, q⟩⟩; (exact absurd lp9 (by simp)); (exact absurd lp9 (by simp)); exact ⟨x, y, q, rfl⟩
                      have tl9 : ∃ t : Nat, (V15 5 7).toInt = ((t : Nat) : Int) ∧ 2 ≤ t ∧ t ≤ 2000 := by obtain ⟨_, _, _, t, ht, t0, h1, _⟩ := id rw9; have h2 := RWl.tot (show RWl V15 gB (f2 :: gr) t from by obtain ⟨_, _, _, t7, ht7, hl7⟩ := rw9; rw [show t = t7 from by omega]; exact hl7); have h3 : totP (f2 :: gr) ≤ 2000 := (GOs.sf go2).2.1; rw [hfe, hpe] at h1; have h4 : t = t0 + (p9.length + 1 + 1) := h1; exact ⟨t, ht, by omega, by omega⟩
                      obtain ⟨tw9, ht9, tg9, tm9⟩ := tl9
                      have pq185 : (V119 5 7).toInt = z125.toInt := congrArg Int32.toInt (up2_s hV119)
                      exact ihlp16 z165 y14 V135 H locs ls (by (first | exact om_4c7236201e99 r12.2 klp16_0.1 f40 hz165 | omega)) (by (first | exact om_1b1f2d1cff90 klp16_1.1 klp16_1.2 | omega)) mo182 (show (gf : Int) + 1 = (V135 5 6).toInt from by (first | exact om_6e5bbaaa0e03 xlp16_1 pq166 | omega)) (show (V135 67 gf).toInt = 4 from by (first | exact om_ac6651f4ff0c xlp16_2 pq167 | omega)) (show (V135 68 gf).toInt = 0 from by (first | exact om_36161e850215 xlp16_3 pq168 | omega)) (by exfalso; (first | exact om_eaa38358f74c pq113 r114.2 hz112 pq126 hz125 hc139 pq185 | omega)) (by (first | exact om_5e93b663c12e hn hz165 | omega)) (agr.tr (agr.up (agr.up (agr.up (agr.tr agr.rf ajV15 (by decide) (by decide)) hV51 rfl) hV106 rfl) hV119 rfl) ajV135 (by decide) (by decide)) hMV135 hP hD hS (lv_sub hl [0, 3, 4, 5] rfl)
                  · skip
                    have ajV119 : agr [] [] V106 V119 := by rw [hw124]; exact agr.rf
                    refine lv_iload hx hb dX5_work_94 (lv_at hl 0 rfl) ?_
                    refine gE_int (g_runS (As := [.int (V 48 (8200 * b + (Int32.toNatClampNeg (V15 84 gf)))), .int z115, .int z102]) (rest := [.ref (ad 5)]) (wc := []) (tc := []) hx hb hml hown hg gw_self hP hD hK hS hA hnw hgk [] [] (by decide) rfl rfl (x_compute9 l D ks H.size (V 48 (8200 * b + (Int32.toNatClampNeg (V15 84 gf)))) z115 z102 ) w1486 w1487 w171 w1488 hdS_yX5_compute ⟨Nat.le_of_ble_eq_true rfl, Nat.le_of_ble_eq_true rfl⟩ rfl hl.1 rfl (Nat.le_of_ble_eq_true rfl) dX5_work_96 ⟨z0, z0⟩) hP hD hK hS hA (fun z186 u187 H locs w188 hP hD hK hS => ?_)
                    have t189 := w188
                    replace t189 : (((V 48 (8200 * b + (Int32.toNatClampNeg (V15 84 gf))))).toInt = 5 → z186 = z115 + z102) ∧ (((V 48 (8200 * b + (Int32.toNatClampNeg (V15 84 gf))))).toInt = 6 → z186 = z115 - z102) ∧ (((V 48 (8200 * b + (Int32.toNatClampNeg (V15 84 gf))))).toInt = 7 → z186 = z115 * z102) ∧ (((V 48 (8200 * b + (Int32.toNatClampNeg (V15 84 gf))))).toInt = 8 → z186 = (if z115.toInt < z102.toInt then 1 else 0)) ∧ (9 ≤ ((V 48 (8200 * b + (Int32.toNatClampNeg (V15 84 gf))))).toInt → z186 = (if z115 = z102 then 1 else 0)) := t189
                    refine gA_void (gA_runV (As := [.int z186]) (rest := []) (ci := 5) (q0 := 5) hx hb hml hown hg hP hD hK hS hA hnw hgk (x_put9 l D ks H.size ad kk V119 L Z z186 hMV119 ) w1466 w1468 w72 w171 w1469 rfl xgMachine hdV_yX5_put ⟨Nat.le_of_ble_eq_true rfl, Nat.le_of_ble_eq_true rfl⟩ rfl hl.1 rfl (Nat.le_of_ble_eq_true rfl) dX5_work_99 ⟨z0, z0⟩) hP hD hK hS hA (fun u191 H locs w192 hP hD hK hS => ?_)
                    obtain ⟨V194, L195⟩ := u191
                    obtain ⟨hMV194, ajV194, axL195, t193⟩ := w192
                    have axL195 : L = L195 := Eq.symm axL195
                    subst axL195
                    replace hP : va_P D vwCl (xw ad kk V194 L Z) H := hP
                    replace hD : va_D A (xw ad kk V194 L Z) := hD
                    replace hMV194 : rgd bX V194 := hMV194
                    replace ajV194 : agr [(5, 7)] [39] V119 V194 := ajV194
                    have agV194 : agr [(5, 6), (5, 7), (5, 9), (5, 10), (5, 11), (5, 12), (5, 13), (5, 14)] [39, 67, 68, 69, 70, 71, 72, 73, 74, 75, 76, 77, 78, 79, 80, 81, 82, 83, 84, 85] V V194 := agV119.tr ajV194 (by decide) (by decide)
                    replace t193 : (((V119 5 7).toInt < 2048) ∧ V194 = (up2 (up2 V119 5 7 (V119 5 7 + 1)) 39 (Int32.toNatClampNeg (V119 5 7)) z186)) ∨ ((2048 ≤ (V119 5 7).toInt) ∧ V194 = V119) := t193
                    rcases t193 with ⟨hc196, hw197⟩ | ⟨hc198, hw199⟩
                    · skip
                      have pq201 : (V119 5 7).toInt = z112.toInt := congrArg Int32.toInt ((ajV119 5 7 rfl).trans (up2_s hV106))
                      obtain ⟨z200, ez200⟩ : ∃ y : Int32, y = V119 5 7 + 1 := ⟨_, rfl⟩
                      have hz200 : z200.toInt = (V119 5 7).toInt + 1 := i_add ez200 rfl (by decide) (by (first | exact om_f01548935650 pq113 r114.1 r114.2 hz112 pq201 | omega))
                      obtain ⟨V202, hV202⟩ : ∃ z, z = up2 V119 5 7 z200 := ⟨_, rfl⟩
                      have hV194 : V194 = up2 V202 39 (Int32.toNatClampNeg (V119 5 7)) z186 := by rw [hw197, hV202, ez200]
                      refine lv_goto (tgt := 113) hx hb dX5_work_102 (by decide) ?_
                      obtain ⟨z203, ez203⟩ : ∃ y : Int32, y = y13 + 1 := ⟨_, rfl⟩
                      have hz203 : z203.toInt = y13.toInt + 1 := i_add ez203 rfl (by decide) (by (first | exact om_f150dd2841b6 r12.2 klp16_0.1 f40 | omega))
                      refine lv_iinc (v := z203) (lv' := [(3, .int z203), (5, .int z102), (4, .int (V 48 (8200 * b + (Int32.toNatClampNeg (V15 84 gf))))), (2, .int y14), (0, .ref (ad 5)), (1, .ref (Z.fa gf))]) hx hb dX5_work_113 hl (k := 2) rfl (by rw [ez203]; rfl) (by decide) rfl (fun ls hl => ?_)
                      refine lv_goto (tgt := 4) hx hb dX5_work_116 (by decide) ?_
                      have pq204 : (V194 5 6).toInt = ((V15 5 6)).toInt := congrArg Int32.toInt ((up2_o hV194 (by decide)).trans ((up2_k hV202 (by decide)).trans ((ajV119 5 6 rfl).trans ((up2_k hV106 (by decide)).trans (up2_o hV51 (by decide))))))
                      have pq205 : (V194 67 gf).toInt = ((V15 67 gf)).toInt := congrArg Int32.toInt ((up2_o hV194 (by decide)).trans ((up2_o hV202 (by decide)).trans ((ajV119 67 gf rfl).trans ((up2_o hV106 (by decide)).trans (up2_o hV51 (by decide))))))
                      have pq206 : (V194 68 gf).toInt = ((V15 68 gf)).toInt := congrArg Int32.toInt ((up2_o hV194 (by decide)).trans ((up2_o hV202 (by decide)).trans ((ajV119 68 gf rfl).trans ((up2_o hV106 (by decide)).trans (up2_o hV51 (by decide))))))
                      have me207 : ME V15 V194 gf := (ME.up (ME.up (ME.tr (ME.up (ME.up ME.rf hV51 (Or.inl ⟨by decide, by decide, Nat.le_refl _⟩)) hV106 (Or.inr (by omega))) (ME.ag ajV119 (by decide))) hV202 (Or.inr (by omega))) hV194 (Or.inr (by omega)))
                      have pq208 : (V194 70 gf).toInt = ((V15 70 gf)).toInt := congrArg Int32.toInt ((up2_o hV194 (by decide)).trans ((up2_o hV202 (by decide)).trans ((ajV119 70 gf rfl).trans ((up2_o hV106 (by decide)).trans (up2_o hV51 (by decide))))))
                      have pq209 : (V194 71 gf).toInt = ((V15 71 gf)).toInt := congrArg Int32.toInt ((up2_o hV194 (by decide)).trans ((up2_o hV202 (by decide)).trans ((ajV119 71 gf rfl).trans ((up2_o hV106 (by decide)).trans (up2_o hV51 (by decide))))))
                      have pq210 : (V194 75 gf).toInt = ((V15 75 gf)).toInt := congrArg Int32.toInt ((up2_o hV194 (by decide)).trans ((up2_o hV202 (by decide)).trans ((ajV119 75 gf rfl).trans ((up2_o hV106 (by decide)).trans (up2_o hV51 (by decide))))))
                      have pq211 : (V194 76 gf).toInt = ((V15 76 gf)).toInt := congrArg Int32.toInt ((up2_o hV194 (by decide)).trans ((up2_o hV202 (by decide)).trans ((ajV119 76 gf rfl).trans ((up2_o hV106 (by decide)).trans (up2_o hV51 (by decide))))))
                      have pq212 : (V194 80 gf).toInt = ((V15 80 gf)).toInt := congrArg Int32.toInt ((up2_o hV194 (by decide)).trans ((up2_o hV202 (by decide)).trans ((ajV119 80 gf rfl).trans ((up2_o hV106 (by decide)).trans (up2_o hV51 (by decide))))))
                      have pq213 : (V194 84 gf).toInt = z50.toInt := congrArg Int32.toInt ((up2_o hV194 (by decide)).trans ((up2_o hV202 (by decide)).trans ((ajV119 84 gf rfl).trans ((up2_o hV106 (by decide)).trans (up2_s hV51)))))
                      have pq214 : (V194 5 8).toInt = ((V 5 8)).toInt := congrArg Int32.toInt ((up2_o hV194 (by decide)).trans ((up2_k hV202 (by decide)).trans ((ajV119 5 8 rfl).trans ((up2_k hV106 (by decide)).trans ((up2_o hV51 (by decide)).trans (ajV15 5 8 rfl))))))
                      have pq215 : (V194 5 9).toInt = ((V15 5 9)).toInt := congrArg Int32.toInt ((up2_o hV194 (by decide)).trans ((up2_k hV202 (by decide)).trans ((ajV119 5 9 rfl).trans ((up2_k hV106 (by decide)).trans (up2_o hV51 (by decide))))))
                      have pq216 : (V194 3 13).toInt = ((V 3 13)).toInt := congrArg Int32.toInt ((up2_o hV194 (by decide)).trans ((up2_o hV202 (by decide)).trans ((ajV119 3 13 rfl).trans ((up2_o hV106 (by decide)).trans ((up2_o hV51 (by decide)).trans (ajV15 3 13 rfl))))))
                      have pq217 : (V194 43 (5 * b + 2)).toInt = ((V 43 (5 * b + 2))).toInt := congrArg Int32.toInt ((up2_o hV194 (by decide)).trans ((up2_o hV202 (by decide)).trans ((ajV119 43 (5 * b + 2) rfl).trans ((up2_o hV106 (by decide)).trans ((up2_o hV51 (by decide)).trans (ajV15 43 (5 * b + 2) rfl))))))
                      have pq218 : (V194 42 b).toInt = ((V 42 b)).toInt := congrArg Int32.toInt ((up2_o hV194 (by decide)).trans ((up2_o hV202 (by decide)).trans ((ajV119 42 b rfl).trans ((up2_o hV106 (by decide)).trans ((up2_o hV51 (by decide)).trans (ajV15 42 b rfl))))))
                      have pq219 : (V194 41 b).toInt = ((V 41 b)).toInt := congrArg Int32.toInt ((up2_o hV194 (by decide)).trans ((up2_o hV202 (by decide)).trans ((ajV119 41 b rfl).trans ((up2_o hV106 (by decide)).trans ((up2_o hV51 (by decide)).trans (ajV15 41 b rfl))))))
                      have ep222 : V194 84 gf = z50 := ((up2_o hV194 (by decide)).trans ((up2_o hV202 (by decide)).trans ((ajV119 84 gf rfl).trans ((up2_o hV106 (by decide)).trans (up2_s hV51)))))
                      have af221 : (V194 42 b).toInt ≤ (V194 84 gf).toInt ∨ (bdp V194 b (V194 84 gf).toInt.toNat).1 = true := by rw [ep222, me207.1.bd, me207.1 42 b (by decide) (by decide)]; exact atn
                      have mo220 : MO V194 Z b gf True True True := MO.ch xlp16_0 me207 ((up2_o hV194 (by decide)).trans ((up2_o hV202 (by decide)).trans ((ajV119 67 gf rfl).trans ((up2_o hV106 (by decide)).trans (up2_o hV51 (by decide)))))) ((up2_o hV194 (by decide)).trans ((up2_o hV202 (by decide)).trans ((ajV119 80 gf rfl).trans ((up2_o hV106 (by decide)).trans (up2_o hV51 (by decide)))))) (fun _ => Or.inl (by omega)) (fun x h => FK.k4 (by omega) (by omega) (by omega) af221 (by omega) (fun hph => absurd hph (by omega)))
                      have op9 := OQ.op oq9
                      have cd9 := (bc28).1.2 at9.toNat hi9
                      have ka9 : Int32.toNatClampNeg (V15 84 gf) = psz (opf gB.1) at9.toNat := by have h9 := i_clamp (x := V15 84 gf) rfl (by (first | exact om_eafa9039069c r21.1 | omega)); omega
                      have c48 : (V 48 (8200 * b + (Int32.toNatClampNeg (V15 84 gf)))).toInt = enO (opf gB.1 at9.toNat) := by have h9 := cd9.1; rw [← ka9] at h9; exact (congrArg Int32.toInt (ajV15 48 (8200 * b + (Int32.toNatClampNeg (V15 84 gf))) rfl)).symm.trans h9
                      have en9 : 5 ≤ opf gB.1 at9.toNat ∧ opf gB.1 at9.toNat ≤ 9 := enO_59 op9 (by rw [← c48]; omega) (by rw [← c48]; omega)
                      obtain ⟨t8, lp9, q8, oq8⟩ := OQ.i5 oq9 en9
                      obtain ⟨x9, y9, p9, hpe⟩ : ∃ x9 y9 p9, p = x9 :: y9 :: p9 := by rcases p with _ | ⟨x, _ | ⟨y, q⟩⟩; (exact absurd lp9 (by simp)); (exact absurd lp9 (by simp)); exact ⟨x, y, q, rfl⟩
                      have tl9 : ∃ t : Nat, (V15 5 7).toInt = ((t : Nat) : Int) ∧ 2 ≤ t ∧ t ≤ 2000 := by obtain ⟨_, _, _, t, ht, t0, h1, _⟩ := id rw9; have h2 := RWl.tot (show RWl V15 gB (f2 :: gr) t from by obtain ⟨_, _, _, t7, ht7, hl7⟩ := rw9; rw [show t = t7 from by omega]; exact hl7); have h3 : totP (f2 :: gr) ≤ 2000 := (GOs.sf go2).2.1; rw [hfe, hpe] at h1; have h4 : t = t0 + (p9.length + 1 + 1) := h1; exact ⟨t, ht, by omega, by omega⟩
                      obtain ⟨tw9, ht9, tg9, tm9⟩ := tl9
                      have pq223 : (V106 5 7).toInt = z112.toInt := congrArg Int32.toInt (up2_s hV106)
                      exact ihlp16 z203 y14 V194 H locs ls (by (first | exact om_4c7236201e99 r12.2 klp16_0.1 f40 hz203 | omega)) (by (first | exact om_1b1f2d1cff90 klp16_1.1 klp16_1.2 | omega)) mo220 (show (gf : Int) + 1 = (V194 5 6).toInt from by (first | exact om_6e5bbaaa0e03 xlp16_1 pq204 | omega)) (show (V194 67 gf).toInt = 4 from by (first | exact om_ac6651f4ff0c xlp16_2 pq205 | omega)) (show (V194 68 gf).toInt = 0 from by (first | exact om_36161e850215 xlp16_3 pq206 | omega)) (by exfalso; omega) (by (first | exact om_5e93b663c12e hn hz203 | omega)) (agr.up (agr.up (agr.tr (agr.up (agr.up (agr.tr agr.rf ajV15 (by decide) (by decide)) hV51 rfl) hV106 rfl) ajV119 (by decide) (by decide)) hV202 rfl) hV194 rfl) hMV194 hP hD hS (lv_sub hl [0, 3, 4, 5] rfl)
                    · skip
                      have ajV194 : agr [] [] V119 V194 := by rw [hw199]; exact agr.rf
                      refine lv_goto (tgt := 113) hx hb dX5_work_102 (by decide) ?_
                      obtain ⟨z224, ez224⟩ : ∃ y : Int32, y = y13 + 1 := ⟨_, rfl⟩
                      have hz224 : z224.toInt = y13.toInt + 1 := i_add ez224 rfl (by decide) (by (first | exact om_f150dd2841b6 r12.2 klp16_0.1 f40 | omega))
                      refine lv_iinc (v := z224) (lv' := [(3, .int z224), (5, .int z102), (4, .int (V 48 (8200 * b + (Int32.toNatClampNeg (V15 84 gf))))), (2, .int y14), (0, .ref (ad 5)), (1, .ref (Z.fa gf))]) hx hb dX5_work_113 hl (k := 2) rfl (by rw [ez224]; rfl) (by decide) rfl (fun ls hl => ?_)
                      refine lv_goto (tgt := 4) hx hb dX5_work_116 (by decide) ?_
                      have pq225 : (V194 5 6).toInt = ((V15 5 6)).toInt := congrArg Int32.toInt ((ajV194 5 6 rfl).trans ((ajV119 5 6 rfl).trans ((up2_k hV106 (by decide)).trans (up2_o hV51 (by decide)))))
                      have pq226 : (V194 67 gf).toInt = ((V15 67 gf)).toInt := congrArg Int32.toInt ((ajV194 67 gf rfl).trans ((ajV119 67 gf rfl).trans ((up2_o hV106 (by decide)).trans (up2_o hV51 (by decide)))))
                      have pq227 : (V194 68 gf).toInt = ((V15 68 gf)).toInt := congrArg Int32.toInt ((ajV194 68 gf rfl).trans ((ajV119 68 gf rfl).trans ((up2_o hV106 (by decide)).trans (up2_o hV51 (by decide)))))
                      have me228 : ME V15 V194 gf := (ME.tr (ME.tr (ME.up (ME.up ME.rf hV51 (Or.inl ⟨by decide, by decide, Nat.le_refl _⟩)) hV106 (Or.inr (by omega))) (ME.ag ajV119 (by decide))) (ME.ag ajV194 (by decide)))
                      have pq229 : (V194 70 gf).toInt = ((V15 70 gf)).toInt := congrArg Int32.toInt ((ajV194 70 gf rfl).trans ((ajV119 70 gf rfl).trans ((up2_o hV106 (by decide)).trans (up2_o hV51 (by decide)))))
                      have pq230 : (V194 71 gf).toInt = ((V15 71 gf)).toInt := congrArg Int32.toInt ((ajV194 71 gf rfl).trans ((ajV119 71 gf rfl).trans ((up2_o hV106 (by decide)).trans (up2_o hV51 (by decide)))))
                      have pq231 : (V194 75 gf).toInt = ((V15 75 gf)).toInt := congrArg Int32.toInt ((ajV194 75 gf rfl).trans ((ajV119 75 gf rfl).trans ((up2_o hV106 (by decide)).trans (up2_o hV51 (by decide)))))
                      have pq232 : (V194 76 gf).toInt = ((V15 76 gf)).toInt := congrArg Int32.toInt ((ajV194 76 gf rfl).trans ((ajV119 76 gf rfl).trans ((up2_o hV106 (by decide)).trans (up2_o hV51 (by decide)))))
                      have pq233 : (V194 80 gf).toInt = ((V15 80 gf)).toInt := congrArg Int32.toInt ((ajV194 80 gf rfl).trans ((ajV119 80 gf rfl).trans ((up2_o hV106 (by decide)).trans (up2_o hV51 (by decide)))))
                      have pq234 : (V194 84 gf).toInt = z50.toInt := congrArg Int32.toInt ((ajV194 84 gf rfl).trans ((ajV119 84 gf rfl).trans ((up2_o hV106 (by decide)).trans (up2_s hV51))))
                      have pq235 : (V194 5 8).toInt = ((V 5 8)).toInt := congrArg Int32.toInt ((ajV194 5 8 rfl).trans ((ajV119 5 8 rfl).trans ((up2_k hV106 (by decide)).trans ((up2_o hV51 (by decide)).trans (ajV15 5 8 rfl)))))
                      have pq236 : (V194 5 9).toInt = ((V15 5 9)).toInt := congrArg Int32.toInt ((ajV194 5 9 rfl).trans ((ajV119 5 9 rfl).trans ((up2_k hV106 (by decide)).trans (up2_o hV51 (by decide)))))
                      have pq237 : (V194 3 13).toInt = ((V 3 13)).toInt := congrArg Int32.toInt ((ajV194 3 13 rfl).trans ((ajV119 3 13 rfl).trans ((up2_o hV106 (by decide)).trans ((up2_o hV51 (by decide)).trans (ajV15 3 13 rfl)))))
                      have pq238 : (V194 43 (5 * b + 2)).toInt = ((V 43 (5 * b + 2))).toInt := congrArg Int32.toInt ((ajV194 43 (5 * b + 2) rfl).trans ((ajV119 43 (5 * b + 2) rfl).trans ((up2_o hV106 (by decide)).trans ((up2_o hV51 (by decide)).trans (ajV15 43 (5 * b + 2) rfl)))))
                      have pq239 : (V194 42 b).toInt = ((V 42 b)).toInt := congrArg Int32.toInt ((ajV194 42 b rfl).trans ((ajV119 42 b rfl).trans ((up2_o hV106 (by decide)).trans ((up2_o hV51 (by decide)).trans (ajV15 42 b rfl)))))
                      have pq240 : (V194 41 b).toInt = ((V 41 b)).toInt := congrArg Int32.toInt ((ajV194 41 b rfl).trans ((ajV119 41 b rfl).trans ((up2_o hV106 (by decide)).trans ((up2_o hV51 (by decide)).trans (ajV15 41 b rfl)))))
                      have ep243 : V194 84 gf = z50 := ((ajV194 84 gf rfl).trans ((ajV119 84 gf rfl).trans ((up2_o hV106 (by decide)).trans (up2_s hV51))))
                      have af242 : (V194 42 b).toInt ≤ (V194 84 gf).toInt ∨ (bdp V194 b (V194 84 gf).toInt.toNat).1 = true := by rw [ep243, me228.1.bd, me228.1 42 b (by decide) (by decide)]; exact atn
                      have mo241 : MO V194 Z b gf True True True := MO.ch xlp16_0 me228 ((ajV194 67 gf rfl).trans ((ajV119 67 gf rfl).trans ((up2_o hV106 (by decide)).trans (up2_o hV51 (by decide))))) ((ajV194 80 gf rfl).trans ((ajV119 80 gf rfl).trans ((up2_o hV106 (by decide)).trans (up2_o hV51 (by decide))))) (fun _ => Or.inl (by omega)) (fun x h => FK.k4 (by omega) (by omega) (by omega) af242 (by omega) (fun hph => absurd hph (by omega)))
                      have op9 := OQ.op oq9
                      have cd9 := (bc28).1.2 at9.toNat hi9
                      have ka9 : Int32.toNatClampNeg (V15 84 gf) = psz (opf gB.1) at9.toNat := by have h9 := i_clamp (x := V15 84 gf) rfl (by (first | exact om_eafa9039069c r21.1 | omega)); omega
                      have c48 : (V 48 (8200 * b + (Int32.toNatClampNeg (V15 84 gf)))).toInt = enO (opf gB.1 at9.toNat) := by have h9 := cd9.1; rw [← ka9] at h9; exact (congrArg Int32.toInt (ajV15 48 (8200 * b + (Int32.toNatClampNeg (V15 84 gf))) rfl)).symm.trans h9
                      have en9 : 5 ≤ opf gB.1 at9.toNat ∧ opf gB.1 at9.toNat ≤ 9 := enO_59 op9 (by rw [← c48]; omega) (by rw [← c48]; omega)
                      obtain ⟨t8, lp9, q8, oq8⟩ := OQ.i5 oq9 en9
                      obtain ⟨x9, y9, p9, hpe⟩ : ∃ x9 y9 p9, p = x9 :: y9 :: p9 := by rcases p with _ | ⟨x, _ | ⟨y, q⟩⟩; (exact absurd lp9 (by simp)); (exact absurd lp9 (by simp)); exact ⟨x, y, q, rfl⟩
                      have tl9 : ∃ t : Nat, (V15 5 7).toInt = ((t : Nat) : Int) ∧ 2 ≤ t ∧ t ≤ 2000 := by obtain ⟨_, _, _, t, ht, t0, h1, _⟩ := id rw9; have h2 := RWl.tot (show RWl V15 gB (f2 :: gr) t from by obtain ⟨_, _, _, t7, ht7, hl7⟩ := rw9; rw [show t = t7 from by omega]; exact hl7); have h3 : totP (f2 :: gr) ≤ 2000 := (GOs.sf go2).2.1; rw [hfe, hpe] at h1; have h4 : t = t0 + (p9.length + 1 + 1) := h1; exact ⟨t, ht, by omega, by omega⟩
                      obtain ⟨tw9, ht9, tg9, tm9⟩ := tl9
                      have pq244 : (V106 5 7).toInt = z112.toInt := congrArg Int32.toInt (up2_s hV106)
                      have pq245 : (V119 5 7).toInt = z112.toInt := congrArg Int32.toInt ((ajV119 5 7 rfl).trans (up2_s hV106))
                      exact ihlp16 z224 y14 V194 H locs ls (by (first | exact om_4c7236201e99 r12.2 klp16_0.1 f40 hz224 | omega)) (by (first | exact om_1b1f2d1cff90 klp16_1.1 klp16_1.2 | omega)) mo241 (show (gf : Int) + 1 = (V194 5 6).toInt from by (first | exact om_6e5bbaaa0e03 xlp16_1 pq225 | omega)) (show (V194 67 gf).toInt = 4 from by (first | exact om_ac6651f4ff0c xlp16_2 pq226 | omega)) (show (V194 68 gf).toInt = 0 from by (first | exact om_36161e850215 xlp16_3 pq227 | omega)) (by exfalso; (first | exact om_dcd912c4e31c hc123.1 hc198 pq244 pq245 | omega)) (by (first | exact om_5e93b663c12e hn hz224 | omega)) (agr.tr (agr.tr (agr.up (agr.up (agr.tr agr.rf ajV15 (by decide) (by decide)) hV51 rfl) hV106 rfl) ajV119 (by decide) (by decide)) ajV194 (by decide) (by decide)) hMV194 hP hD hS (lv_sub hl [0, 3, 4, 5] rfl)
                · skip
                  have ajV106 : agr [] [] V51 V106 := by rw [hw111]; exact agr.rf
                  refine lv_istore (lv' := [(5, .int z102), (4, .int (V 48 (8200 * b + (Int32.toNatClampNeg (V15 84 gf))))), (3, .int y13), (2, .int y14), (0, .ref (ad 5)), (1, .ref (Z.fa gf))]) hx hb dX5_work_85 hl (by decide) rfl (fun ls hl => ?_)
                  refine lv_aload_n hx hb dX5_work_87 rfl (lv_at hl 4 rfl) ?_
                  refine lv_iload hx hb dX5_work_88 (lv_at hl 1 rfl) ?_
                  refine lv_aload_n hx hb dX5_work_90 rfl (lv_at hl 4 rfl) ?_
                  refine gA_int (gA_runV (As := []) (rest := [.int (V 48 (8200 * b + (Int32.toNatClampNeg (V15 84 gf)))), .ref (ad 5)]) (ci := 5) (q0 := 5) hx hb hml hown hg hP hD hK hS hA hnw hgk (x_pull9 l D ks H.size ad kk V106 L Z  hMV106 ) w1482 w1484 w76 w171 w1485 rfl xgMachine hdV_yX5_pull ⟨Nat.le_of_ble_eq_true rfl, Nat.le_of_ble_eq_true rfl⟩ rfl hl.1 rfl (Nat.le_of_ble_eq_true rfl) dX5_work_91 ⟨z0, z0⟩) hP hD hK hS hA (fun z246 u247 H locs w248 hP hD hK hS => ?_)
                  obtain ⟨V250, L251⟩ := u247
                  obtain ⟨hMV250, ajV250, axL251, t249⟩ := w248
                  have axL251 : L = L251 := Eq.symm axL251
                  subst axL251
                  replace hP : va_P D vwCl (xw ad kk V250 L Z) H := hP
                  replace hD : va_D A (xw ad kk V250 L Z) := hD
                  replace hMV250 : rgd bX V250 := hMV250
                  replace ajV250 : agr [(5, 7)] [] V106 V250 := ajV250
                  have agV250 : agr [(5, 6), (5, 7), (5, 9), (5, 10), (5, 11), (5, 12), (5, 13), (5, 14)] [39, 67, 68, 69, 70, 71, 72, 73, 74, 75, 76, 77, 78, 79, 80, 81, 82, 83, 84, 85] V V250 := agV106.tr ajV250 (by decide) (by decide)
                  replace t249 : ((0 < (V106 5 7).toInt ∧ z246 = V106 39 (Int32.toNatClampNeg (V106 5 7 - 1))) ∧ V250 = (up2 V106 5 7 (V106 5 7 - 1))) ∨ (((V106 5 7).toInt ≤ 0 ∧ z246 = 0) ∧ V250 = V106) := t249
                  rcases t249 with ⟨hc252, hw253⟩ | ⟨hc254, hw255⟩
                  · skip
                    have pq257 : (V106 5 7).toInt = ((V15 5 7)).toInt := congrArg Int32.toInt ((ajV106 5 7 rfl).trans (up2_o hV51 (by decide)))
                    have r258 : 0 ≤ ((V15 5 7)).toInt ∧ ((V15 5 7)).toInt ≤ 2048 := hMV15 5 7
                    obtain ⟨z256, ez256⟩ : ∃ y : Int32, y = V106 5 7 - 1 := ⟨_, rfl⟩
                    have hz256 : z256.toInt = (V106 5 7).toInt - 1 := i_sub ez256 rfl (by decide) (by (first | exact om_dc2ce737465e pq257 r258.1 r258.2 | omega))
                    have hV250 : V250 = up2 V106 5 7 z256 := by rw [hw253, ez256]
                    refine lv_iload hx hb dX5_work_94 (lv_at hl 0 rfl) ?_
                    refine gE_int (g_runS (As := [.int (V 48 (8200 * b + (Int32.toNatClampNeg (V15 84 gf)))), .int z246, .int z102]) (rest := [.ref (ad 5)]) (wc := []) (tc := []) hx hb hml hown hg gw_self hP hD hK hS hA hnw hgk [] [] (by decide) rfl rfl (x_compute9 l D ks H.size (V 48 (8200 * b + (Int32.toNatClampNeg (V15 84 gf)))) z246 z102 ) w1486 w1487 w171 w1488 hdS_yX5_compute ⟨Nat.le_of_ble_eq_true rfl, Nat.le_of_ble_eq_true rfl⟩ rfl hl.1 rfl (Nat.le_of_ble_eq_true rfl) dX5_work_96 ⟨z0, z0⟩) hP hD hK hS hA (fun z259 u260 H locs w261 hP hD hK hS => ?_)
                    have t262 := w261
                    replace t262 : (((V 48 (8200 * b + (Int32.toNatClampNeg (V15 84 gf))))).toInt = 5 → z259 = z246 + z102) ∧ (((V 48 (8200 * b + (Int32.toNatClampNeg (V15 84 gf))))).toInt = 6 → z259 = z246 - z102) ∧ (((V 48 (8200 * b + (Int32.toNatClampNeg (V15 84 gf))))).toInt = 7 → z259 = z246 * z102) ∧ (((V 48 (8200 * b + (Int32.toNatClampNeg (V15 84 gf))))).toInt = 8 → z259 = (if z246.toInt < z102.toInt then 1 else 0)) ∧ (9 ≤ ((V 48 (8200 * b + (Int32.toNatClampNeg (V15 84 gf))))).toInt → z259 = (if z246 = z102 then 1 else 0)) := t262
                    refine gA_void (gA_runV (As := [.int z259]) (rest := []) (ci := 5) (q0 := 5) hx hb hml hown hg hP hD hK hS hA hnw hgk (x_put9 l D ks H.size ad kk V250 L Z z259 hMV250 ) w1466 w1468 w72 w171 w1469 rfl xgMachine hdV_yX5_put ⟨Nat.le_of_ble_eq_true rfl, Nat.le_of_ble_eq_true rfl⟩ rfl hl.1 rfl (Nat.le_of_ble_eq_true rfl) dX5_work_99 ⟨z0, z0⟩) hP hD hK hS hA (fun u264 H locs w265 hP hD hK hS => ?_)
                    obtain ⟨V267, L268⟩ := u264
                    obtain ⟨hMV267, ajV267, axL268, t266⟩ := w265
                    have axL268 : L = L268 := Eq.symm axL268
                    subst axL268
                    replace hP : va_P D vwCl (xw ad kk V267 L Z) H := hP
                    replace hD : va_D A (xw ad kk V267 L Z) := hD
                    replace hMV267 : rgd bX V267 := hMV267
                    replace ajV267 : agr [(5, 7)] [39] V250 V267 := ajV267
                    have agV267 : agr [(5, 6), (5, 7), (5, 9), (5, 10), (5, 11), (5, 12), (5, 13), (5, 14)] [39, 67, 68, 69, 70, 71, 72, 73, 74, 75, 76, 77, 78, 79, 80, 81, 82, 83, 84, 85] V V267 := agV250.tr ajV267 (by decide) (by decide)
                    replace t266 : (((V250 5 7).toInt < 2048) ∧ V267 = (up2 (up2 V250 5 7 (V250 5 7 + 1)) 39 (Int32.toNatClampNeg (V250 5 7)) z259)) ∨ ((2048 ≤ (V250 5 7).toInt) ∧ V267 = V250) := t266
                    rcases t266 with ⟨hc269, hw270⟩ | ⟨hc271, hw272⟩
                    · skip
                      have pq274 : (V250 5 7).toInt = z256.toInt := congrArg Int32.toInt (up2_s hV250)
                      obtain ⟨z273, ez273⟩ : ∃ y : Int32, y = V250 5 7 + 1 := ⟨_, rfl⟩
                      have hz273 : z273.toInt = (V250 5 7).toInt + 1 := i_add ez273 rfl (by decide) (by (first | exact om_f01548935650 pq257 r258.1 r258.2 hz256 pq274 | omega))
                      obtain ⟨V275, hV275⟩ : ∃ z, z = up2 V250 5 7 z273 := ⟨_, rfl⟩
                      have hV267 : V267 = up2 V275 39 (Int32.toNatClampNeg (V250 5 7)) z259 := by rw [hw270, hV275, ez273]
                      refine lv_goto (tgt := 113) hx hb dX5_work_102 (by decide) ?_
                      obtain ⟨z276, ez276⟩ : ∃ y : Int32, y = y13 + 1 := ⟨_, rfl⟩
                      have hz276 : z276.toInt = y13.toInt + 1 := i_add ez276 rfl (by decide) (by (first | exact om_f150dd2841b6 r12.2 klp16_0.1 f40 | omega))
                      refine lv_iinc (v := z276) (lv' := [(3, .int z276), (5, .int z102), (4, .int (V 48 (8200 * b + (Int32.toNatClampNeg (V15 84 gf))))), (2, .int y14), (0, .ref (ad 5)), (1, .ref (Z.fa gf))]) hx hb dX5_work_113 hl (k := 2) rfl (by rw [ez276]; rfl) (by decide) rfl (fun ls hl => ?_)
                      refine lv_goto (tgt := 4) hx hb dX5_work_116 (by decide) ?_
                      have pq277 : (V267 5 6).toInt = ((V15 5 6)).toInt := congrArg Int32.toInt ((up2_o hV267 (by decide)).trans ((up2_k hV275 (by decide)).trans ((up2_k hV250 (by decide)).trans ((ajV106 5 6 rfl).trans (up2_o hV51 (by decide))))))
                      have pq278 : (V267 67 gf).toInt = ((V15 67 gf)).toInt := congrArg Int32.toInt ((up2_o hV267 (by decide)).trans ((up2_o hV275 (by decide)).trans ((up2_o hV250 (by decide)).trans ((ajV106 67 gf rfl).trans (up2_o hV51 (by decide))))))
                      have pq279 : (V267 68 gf).toInt = ((V15 68 gf)).toInt := congrArg Int32.toInt ((up2_o hV267 (by decide)).trans ((up2_o hV275 (by decide)).trans ((up2_o hV250 (by decide)).trans ((ajV106 68 gf rfl).trans (up2_o hV51 (by decide))))))
                      have me280 : ME V15 V267 gf := (ME.up (ME.up (ME.up (ME.tr (ME.up ME.rf hV51 (Or.inl ⟨by decide, by decide, Nat.le_refl _⟩)) (ME.ag ajV106 (by decide))) hV250 (Or.inr (by omega))) hV275 (Or.inr (by omega))) hV267 (Or.inr (by omega)))
                      have pq281 : (V267 70 gf).toInt = ((V15 70 gf)).toInt := congrArg Int32.toInt ((up2_o hV267 (by decide)).trans ((up2_o hV275 (by decide)).trans ((up2_o hV250 (by decide)).trans ((ajV106 70 gf rfl).trans (up2_o hV51 (by decide))))))
                      have pq282 : (V267 71 gf).toInt = ((V15 71 gf)).toInt := congrArg Int32.toInt ((up2_o hV267 (by decide)).trans ((up2_o hV275 (by decide)).trans ((up2_o hV250 (by decide)).trans ((ajV106 71 gf rfl).trans (up2_o hV51 (by decide))))))
                      have pq283 : (V267 75 gf).toInt = ((V15 75 gf)).toInt := congrArg Int32.toInt ((up2_o hV267 (by decide)).trans ((up2_o hV275 (by decide)).trans ((up2_o hV250 (by decide)).trans ((ajV106 75 gf rfl).trans (up2_o hV51 (by decide))))))
                      have pq284 : (V267 76 gf).toInt = ((V15 76 gf)).toInt := congrArg Int32.toInt ((up2_o hV267 (by decide)).trans ((up2_o hV275 (by decide)).trans ((up2_o hV250 (by decide)).trans ((ajV106 76 gf rfl).trans (up2_o hV51 (by decide))))))
                      have pq285 : (V267 80 gf).toInt = ((V15 80 gf)).toInt := congrArg Int32.toInt ((up2_o hV267 (by decide)).trans ((up2_o hV275 (by decide)).trans ((up2_o hV250 (by decide)).trans ((ajV106 80 gf rfl).trans (up2_o hV51 (by decide))))))
                      have pq286 : (V267 84 gf).toInt = z50.toInt := congrArg Int32.toInt ((up2_o hV267 (by decide)).trans ((up2_o hV275 (by decide)).trans ((up2_o hV250 (by decide)).trans ((ajV106 84 gf rfl).trans (up2_s hV51)))))
                      have pq287 : (V267 5 8).toInt = ((V 5 8)).toInt := congrArg Int32.toInt ((up2_o hV267 (by decide)).trans ((up2_k hV275 (by decide)).trans ((up2_k hV250 (by decide)).trans ((ajV106 5 8 rfl).trans ((up2_o hV51 (by decide)).trans (ajV15 5 8 rfl))))))
                      have pq288 : (V267 5 9).toInt = ((V15 5 9)).toInt := congrArg Int32.toInt ((up2_o hV267 (by decide)).trans ((up2_k hV275 (by decide)).trans ((up2_k hV250 (by decide)).trans ((ajV106 5 9 rfl).trans (up2_o hV51 (by decide))))))
                      have pq289 : (V267 3 13).toInt = ((V 3 13)).toInt := congrArg Int32.toInt ((up2_o hV267 (by decide)).trans ((up2_o hV275 (by decide)).trans ((up2_o hV250 (by decide)).trans ((ajV106 3 13 rfl).trans ((up2_o hV51 (by decide)).trans (ajV15 3 13 rfl))))))
                      have pq290 : (V267 43 (5 * b + 2)).toInt = ((V 43 (5 * b + 2))).toInt := congrArg Int32.toInt ((up2_o hV267 (by decide)).trans ((up2_o hV275 (by decide)).trans ((up2_o hV250 (by decide)).trans ((ajV106 43 (5 * b + 2) rfl).trans ((up2_o hV51 (by decide)).trans (ajV15 43 (5 * b + 2) rfl))))))
                      have pq291 : (V267 42 b).toInt = ((V 42 b)).toInt := congrArg Int32.toInt ((up2_o hV267 (by decide)).trans ((up2_o hV275 (by decide)).trans ((up2_o hV250 (by decide)).trans ((ajV106 42 b rfl).trans ((up2_o hV51 (by decide)).trans (ajV15 42 b rfl))))))
                      have pq292 : (V267 41 b).toInt = ((V 41 b)).toInt := congrArg Int32.toInt ((up2_o hV267 (by decide)).trans ((up2_o hV275 (by decide)).trans ((up2_o hV250 (by decide)).trans ((ajV106 41 b rfl).trans ((up2_o hV51 (by decide)).trans (ajV15 41 b rfl))))))
                      have ep295 : V267 84 gf = z50 := ((up2_o hV267 (by decide)).trans ((up2_o hV275 (by decide)).trans ((up2_o hV250 (by decide)).trans ((ajV106 84 gf rfl).trans (up2_s hV51)))))
                      have af294 : (V267 42 b).toInt ≤ (V267 84 gf).toInt ∨ (bdp V267 b (V267 84 gf).toInt.toNat).1 = true := by rw [ep295, me280.1.bd, me280.1 42 b (by decide) (by decide)]; exact atn
                      have mo293 : MO V267 Z b gf True True True := MO.ch xlp16_0 me280 ((up2_o hV267 (by decide)).trans ((up2_o hV275 (by decide)).trans ((up2_o hV250 (by decide)).trans ((ajV106 67 gf rfl).trans (up2_o hV51 (by decide)))))) ((up2_o hV267 (by decide)).trans ((up2_o hV275 (by decide)).trans ((up2_o hV250 (by decide)).trans ((ajV106 80 gf rfl).trans (up2_o hV51 (by decide)))))) (fun _ => Or.inl (by omega)) (fun x h => FK.k4 (by omega) (by omega) (by omega) af294 (by omega) (fun hph => absurd hph (by omega)))
                      have op9 := OQ.op oq9
                      have cd9 := (bc28).1.2 at9.toNat hi9
                      have ka9 : Int32.toNatClampNeg (V15 84 gf) = psz (opf gB.1) at9.toNat := by have h9 := i_clamp (x := V15 84 gf) rfl (by (first | exact om_eafa9039069c r21.1 | omega)); omega
                      have c48 : (V 48 (8200 * b + (Int32.toNatClampNeg (V15 84 gf)))).toInt = enO (opf gB.1 at9.toNat) := by have h9 := cd9.1; rw [← ka9] at h9; exact (congrArg Int32.toInt (ajV15 48 (8200 * b + (Int32.toNatClampNeg (V15 84 gf))) rfl)).symm.trans h9
                      have en9 : 5 ≤ opf gB.1 at9.toNat ∧ opf gB.1 at9.toNat ≤ 9 := enO_59 op9 (by rw [← c48]; omega) (by rw [← c48]; omega)
                      obtain ⟨t8, lp9, q8, oq8⟩ := OQ.i5 oq9 en9
                      obtain ⟨x9, y9, p9, hpe⟩ : ∃ x9 y9 p9, p = x9 :: y9 :: p9 := by rcases p with _ | ⟨x, _ | ⟨y, q⟩⟩; (exact absurd lp9 (by simp)); (exact absurd lp9 (by simp)); exact ⟨x, y, q, rfl⟩
                      have tl9 : ∃ t : Nat, (V15 5 7).toInt = ((t : Nat) : Int) ∧ 2 ≤ t ∧ t ≤ 2000 := by obtain ⟨_, _, _, t, ht, t0, h1, _⟩ := id rw9; have h2 := RWl.tot (show RWl V15 gB (f2 :: gr) t from by obtain ⟨_, _, _, t7, ht7, hl7⟩ := rw9; rw [show t = t7 from by omega]; exact hl7); have h3 : totP (f2 :: gr) ≤ 2000 := (GOs.sf go2).2.1; rw [hfe, hpe] at h1; have h4 : t = t0 + (p9.length + 1 + 1) := h1; exact ⟨t, ht, by omega, by omega⟩
                      obtain ⟨tw9, ht9, tg9, tm9⟩ := tl9
                      have pq296 : (V51 5 7).toInt = ((V15 5 7)).toInt := congrArg Int32.toInt (up2_o hV51 (by decide))
                      exact ihlp16 z276 y14 V267 H locs ls (by (first | exact om_4c7236201e99 r12.2 klp16_0.1 f40 hz276 | omega)) (by (first | exact om_1b1f2d1cff90 klp16_1.1 klp16_1.2 | omega)) mo293 (show (gf : Int) + 1 = (V267 5 6).toInt from by (first | exact om_6e5bbaaa0e03 xlp16_1 pq277 | omega)) (show (V267 67 gf).toInt = 4 from by (first | exact om_ac6651f4ff0c xlp16_2 pq278 | omega)) (show (V267 68 gf).toInt = 0 from by (first | exact om_36161e850215 xlp16_3 pq279 | omega)) (by exfalso; (first | exact om_1b5e55aa7e7d hc110.1 hc252.1 pq257 pq296 | omega)) (by (first | exact om_5e93b663c12e hn hz276 | omega)) (agr.up (agr.up (agr.up (agr.tr (agr.up (agr.tr agr.rf ajV15 (by decide) (by decide)) hV51 rfl) ajV106 (by decide) (by decide)) hV250 rfl) hV275 rfl) hV267 rfl) hMV267 hP hD hS (lv_sub hl [0, 3, 4, 5] rfl)
                    · skip
                      have ajV267 : agr [] [] V250 V267 := by rw [hw272]; exact agr.rf
                      refine lv_goto (tgt := 113) hx hb dX5_work_102 (by decide) ?_
                      obtain ⟨z297, ez297⟩ : ∃ y : Int32, y = y13 + 1 := ⟨_, rfl⟩
                      have hz297 : z297.toInt = y13.toInt + 1 := i_add ez297 rfl (by decide) (by (first | exact om_f150dd2841b6 r12.2 klp16_0.1 f40 | omega))
                      refine lv_iinc (v := z297) (lv' := [(3, .int z297), (5, .int z102), (4, .int (V 48 (8200 * b + (Int32.toNatClampNeg (V15 84 gf))))), (2, .int y14), (0, .ref (ad 5)), (1, .ref (Z.fa gf))]) hx hb dX5_work_113 hl (k := 2) rfl (by rw [ez297]; rfl) (by decide) rfl (fun ls hl => ?_)
                      refine lv_goto (tgt := 4) hx hb dX5_work_116 (by decide) ?_
                      have pq298 : (V267 5 6).toInt = ((V15 5 6)).toInt := congrArg Int32.toInt ((ajV267 5 6 rfl).trans ((up2_k hV250 (by decide)).trans ((ajV106 5 6 rfl).trans (up2_o hV51 (by decide)))))
                      have pq299 : (V267 67 gf).toInt = ((V15 67 gf)).toInt := congrArg Int32.toInt ((ajV267 67 gf rfl).trans ((up2_o hV250 (by decide)).trans ((ajV106 67 gf rfl).trans (up2_o hV51 (by decide)))))
                      have pq300 : (V267 68 gf).toInt = ((V15 68 gf)).toInt := congrArg Int32.toInt ((ajV267 68 gf rfl).trans ((up2_o hV250 (by decide)).trans ((ajV106 68 gf rfl).trans (up2_o hV51 (by decide)))))
                      have me301 : ME V15 V267 gf := (ME.tr (ME.up (ME.tr (ME.up ME.rf hV51 (Or.inl ⟨by decide, by decide, Nat.le_refl _⟩)) (ME.ag ajV106 (by decide))) hV250 (Or.inr (by omega))) (ME.ag ajV267 (by decide)))
                      have pq302 : (V267 70 gf).toInt = ((V15 70 gf)).toInt := congrArg Int32.toInt ((ajV267 70 gf rfl).trans ((up2_o hV250 (by decide)).trans ((ajV106 70 gf rfl).trans (up2_o hV51 (by decide)))))
                      have pq303 : (V267 71 gf).toInt = ((V15 71 gf)).toInt := congrArg Int32.toInt ((ajV267 71 gf rfl).trans ((up2_o hV250 (by decide)).trans ((ajV106 71 gf rfl).trans (up2_o hV51 (by decide)))))
                      have pq304 : (V267 75 gf).toInt = ((V15 75 gf)).toInt := congrArg Int32.toInt ((ajV267 75 gf rfl).trans ((up2_o hV250 (by decide)).trans ((ajV106 75 gf rfl).trans (up2_o hV51 (by decide)))))
                      have pq305 : (V267 76 gf).toInt = ((V15 76 gf)).toInt := congrArg Int32.toInt ((ajV267 76 gf rfl).trans ((up2_o hV250 (by decide)).trans ((ajV106 76 gf rfl).trans (up2_o hV51 (by decide)))))
                      have pq306 : (V267 80 gf).toInt = ((V15 80 gf)).toInt := congrArg Int32.toInt ((ajV267 80 gf rfl).trans ((up2_o hV250 (by decide)).trans ((ajV106 80 gf rfl).trans (up2_o hV51 (by decide)))))
                      have pq307 : (V267 84 gf).toInt = z50.toInt := congrArg Int32.toInt ((ajV267 84 gf rfl).trans ((up2_o hV250 (by decide)).trans ((ajV106 84 gf rfl).trans (up2_s hV51))))
                      have pq308 : (V267 5 8).toInt = ((V 5 8)).toInt := congrArg Int32.toInt ((ajV267 5 8 rfl).trans ((up2_k hV250 (by decide)).trans ((ajV106 5 8 rfl).trans ((up2_o hV51 (by decide)).trans (ajV15 5 8 rfl)))))
                      have pq309 : (V267 5 9).toInt = ((V15 5 9)).toInt := congrArg Int32.toInt ((ajV267 5 9 rfl).trans ((up2_k hV250 (by decide)).trans ((ajV106 5 9 rfl).trans (up2_o hV51 (by decide)))))
                      have pq310 : (V267 3 13).toInt = ((V 3 13)).toInt := congrArg Int32.toInt ((ajV267 3 13 rfl).trans ((up2_o hV250 (by decide)).trans ((ajV106 3 13 rfl).trans ((up2_o hV51 (by decide)).trans (ajV15 3 13 rfl)))))
                      have pq311 : (V267 43 (5 * b + 2)).toInt = ((V 43 (5 * b + 2))).toInt := congrArg Int32.toInt ((ajV267 43 (5 * b + 2) rfl).trans ((up2_o hV250 (by decide)).trans ((ajV106 43 (5 * b + 2) rfl).trans ((up2_o hV51 (by decide)).trans (ajV15 43 (5 * b + 2) rfl)))))
                      have pq312 : (V267 42 b).toInt = ((V 42 b)).toInt := congrArg Int32.toInt ((ajV267 42 b rfl).trans ((up2_o hV250 (by decide)).trans ((ajV106 42 b rfl).trans ((up2_o hV51 (by decide)).trans (ajV15 42 b rfl)))))
                      have pq313 : (V267 41 b).toInt = ((V 41 b)).toInt := congrArg Int32.toInt ((ajV267 41 b rfl).trans ((up2_o hV250 (by decide)).trans ((ajV106 41 b rfl).trans ((up2_o hV51 (by decide)).trans (ajV15 41 b rfl)))))
                      have ep316 : V267 84 gf = z50 := ((ajV267 84 gf rfl).trans ((up2_o hV250 (by decide)).trans ((ajV106 84 gf rfl).trans (up2_s hV51))))
                      have af315 : (V267 42 b).toInt ≤ (V267 84 gf).toInt ∨ (bdp V267 b (V267 84 gf).toInt.toNat).1 = true := by rw [ep316, me301.1.bd, me301.1 42 b (by decide) (by decide)]; exact atn
                      have mo314 : MO V267 Z b gf True True True := MO.ch xlp16_0 me301 ((ajV267 67 gf rfl).trans ((up2_o hV250 (by decide)).trans ((ajV106 67 gf rfl).trans (up2_o hV51 (by decide))))) ((ajV267 80 gf rfl).trans ((up2_o hV250 (by decide)).trans ((ajV106 80 gf rfl).trans (up2_o hV51 (by decide))))) (fun _ => Or.inl (by omega)) (fun x h => FK.k4 (by omega) (by omega) (by omega) af315 (by omega) (fun hph => absurd hph (by omega)))
                      have op9 := OQ.op oq9
                      have cd9 := (bc28).1.2 at9.toNat hi9
                      have ka9 : Int32.toNatClampNeg (V15 84 gf) = psz (opf gB.1) at9.toNat := by have h9 := i_clamp (x := V15 84 gf) rfl (by (first | exact om_eafa9039069c r21.1 | omega)); omega
                      have c48 : (V 48 (8200 * b + (Int32.toNatClampNeg (V15 84 gf)))).toInt = enO (opf gB.1 at9.toNat) := by have h9 := cd9.1; rw [← ka9] at h9; exact (congrArg Int32.toInt (ajV15 48 (8200 * b + (Int32.toNatClampNeg (V15 84 gf))) rfl)).symm.trans h9
                      have en9 : 5 ≤ opf gB.1 at9.toNat ∧ opf gB.1 at9.toNat ≤ 9 := enO_59 op9 (by rw [← c48]; omega) (by rw [← c48]; omega)
                      obtain ⟨t8, lp9, q8, oq8⟩ := OQ.i5 oq9 en9
                      obtain ⟨x9, y9, p9, hpe⟩ : ∃ x9 y9 p9, p = x9 :: y9 :: p9 := by rcases p with _ | ⟨x, _ | ⟨y, q⟩⟩; (exact absurd lp9 (by simp)); (exact absurd lp9 (by simp)); exact ⟨x, y, q, rfl⟩
                      have tl9 : ∃ t : Nat, (V15 5 7).toInt = ((t : Nat) : Int) ∧ 2 ≤ t ∧ t ≤ 2000 := by obtain ⟨_, _, _, t, ht, t0, h1, _⟩ := id rw9; have h2 := RWl.tot (show RWl V15 gB (f2 :: gr) t from by obtain ⟨_, _, _, t7, ht7, hl7⟩ := rw9; rw [show t = t7 from by omega]; exact hl7); have h3 : totP (f2 :: gr) ≤ 2000 := (GOs.sf go2).2.1; rw [hfe, hpe] at h1; have h4 : t = t0 + (p9.length + 1 + 1) := h1; exact ⟨t, ht, by omega, by omega⟩
                      obtain ⟨tw9, ht9, tg9, tm9⟩ := tl9
                      have pq317 : (V51 5 7).toInt = ((V15 5 7)).toInt := congrArg Int32.toInt (up2_o hV51 (by decide))
                      have pq318 : (V250 5 7).toInt = z256.toInt := congrArg Int32.toInt (up2_s hV250)
                      exact ihlp16 z297 y14 V267 H locs ls (by (first | exact om_4c7236201e99 r12.2 klp16_0.1 f40 hz297 | omega)) (by (first | exact om_1b1f2d1cff90 klp16_1.1 klp16_1.2 | omega)) mo314 (show (gf : Int) + 1 = (V267 5 6).toInt from by (first | exact om_6e5bbaaa0e03 xlp16_1 pq298 | omega)) (show (V267 67 gf).toInt = 4 from by (first | exact om_ac6651f4ff0c xlp16_2 pq299 | omega)) (show (V267 68 gf).toInt = 0 from by (first | exact om_36161e850215 xlp16_3 pq300 | omega)) (by exfalso; (first | exact om_6614fd74b016 hc110.1 pq257 hz256 hc271 pq317 pq318 | omega)) (by (first | exact om_5e93b663c12e hn hz297 | omega)) (agr.tr (agr.up (agr.tr (agr.up (agr.tr agr.rf ajV15 (by decide) (by decide)) hV51 rfl) ajV106 (by decide) (by decide)) hV250 rfl) ajV267 (by decide) (by decide)) hMV267 hP hD hS (lv_sub hl [0, 3, 4, 5] rfl)
                  · skip
                    have ajV250 : agr [] [] V106 V250 := by rw [hw255]; exact agr.rf
                    refine lv_iload hx hb dX5_work_94 (lv_at hl 0 rfl) ?_
                    refine gE_int (g_runS (As := [.int (V 48 (8200 * b + (Int32.toNatClampNeg (V15 84 gf)))), .int z246, .int z102]) (rest := [.ref (ad 5)]) (wc := []) (tc := []) hx hb hml hown hg gw_self hP hD hK hS hA hnw hgk [] [] (by decide) rfl rfl (x_compute9 l D ks H.size (V 48 (8200 * b + (Int32.toNatClampNeg (V15 84 gf)))) z246 z102 ) w1486 w1487 w171 w1488 hdS_yX5_compute ⟨Nat.le_of_ble_eq_true rfl, Nat.le_of_ble_eq_true rfl⟩ rfl hl.1 rfl (Nat.le_of_ble_eq_true rfl) dX5_work_96 ⟨z0, z0⟩) hP hD hK hS hA (fun z319 u320 H locs w321 hP hD hK hS => ?_)
                    have t322 := w321
                    replace t322 : (((V 48 (8200 * b + (Int32.toNatClampNeg (V15 84 gf))))).toInt = 5 → z319 = z246 + z102) ∧ (((V 48 (8200 * b + (Int32.toNatClampNeg (V15 84 gf))))).toInt = 6 → z319 = z246 - z102) ∧ (((V 48 (8200 * b + (Int32.toNatClampNeg (V15 84 gf))))).toInt = 7 → z319 = z246 * z102) ∧ (((V 48 (8200 * b + (Int32.toNatClampNeg (V15 84 gf))))).toInt = 8 → z319 = (if z246.toInt < z102.toInt then 1 else 0)) ∧ (9 ≤ ((V 48 (8200 * b + (Int32.toNatClampNeg (V15 84 gf))))).toInt → z319 = (if z246 = z102 then 1 else 0)) := t322
                    refine gA_void (gA_runV (As := [.int z319]) (rest := []) (ci := 5) (q0 := 5) hx hb hml hown hg hP hD hK hS hA hnw hgk (x_put9 l D ks H.size ad kk V250 L Z z319 hMV250 ) w1466 w1468 w72 w171 w1469 rfl xgMachine hdV_yX5_put ⟨Nat.le_of_ble_eq_true rfl, Nat.le_of_ble_eq_true rfl⟩ rfl hl.1 rfl (Nat.le_of_ble_eq_true rfl) dX5_work_99 ⟨z0, z0⟩) hP hD hK hS hA (fun u324 H locs w325 hP hD hK hS => ?_)
                    obtain ⟨V327, L328⟩ := u324
                    obtain ⟨hMV327, ajV327, axL328, t326⟩ := w325
                    have axL328 : L = L328 := Eq.symm axL328
                    subst axL328
                    replace hP : va_P D vwCl (xw ad kk V327 L Z) H := hP
                    replace hD : va_D A (xw ad kk V327 L Z) := hD
                    replace hMV327 : rgd bX V327 := hMV327
                    replace ajV327 : agr [(5, 7)] [39] V250 V327 := ajV327
                    have agV327 : agr [(5, 6), (5, 7), (5, 9), (5, 10), (5, 11), (5, 12), (5, 13), (5, 14)] [39, 67, 68, 69, 70, 71, 72, 73, 74, 75, 76, 77, 78, 79, 80, 81, 82, 83, 84, 85] V V327 := agV250.tr ajV327 (by decide) (by decide)
                    replace t326 : (((V250 5 7).toInt < 2048) ∧ V327 = (up2 (up2 V250 5 7 (V250 5 7 + 1)) 39 (Int32.toNatClampNeg (V250 5 7)) z319)) ∨ ((2048 ≤ (V250 5 7).toInt) ∧ V327 = V250) := t326
                    rcases t326 with ⟨hc329, hw330⟩ | ⟨hc331, hw332⟩
                    · skip
                      have pq334 : (V250 5 7).toInt = ((V15 5 7)).toInt := congrArg Int32.toInt ((ajV250 5 7 rfl).trans ((ajV106 5 7 rfl).trans (up2_o hV51 (by decide))))
                      have r335 : 0 ≤ ((V15 5 7)).toInt ∧ ((V15 5 7)).toInt ≤ 2048 := hMV15 5 7
                      obtain ⟨z333, ez333⟩ : ∃ y : Int32, y = V250 5 7 + 1 := ⟨_, rfl⟩
                      have hz333 : z333.toInt = (V250 5 7).toInt + 1 := i_add ez333 rfl (by decide) (by (first | exact om_e8735de14d36 pq334 r335.1 r335.2 | omega))
                      obtain ⟨V336, hV336⟩ : ∃ z, z = up2 V250 5 7 z333 := ⟨_, rfl⟩
                      have hV327 : V327 = up2 V336 39 (Int32.toNatClampNeg (V250 5 7)) z319 := by rw [hw330, hV336, ez333]
                      refine lv_goto (tgt := 113) hx hb dX5_work_102 (by decide) ?_
                      obtain ⟨z337, ez337⟩ : ∃ y : Int32, y = y13 + 1 := ⟨_, rfl⟩
                      have hz337 : z337.toInt = y13.toInt + 1 := i_add ez337 rfl (by decide) (by (first | exact om_f150dd2841b6 r12.2 klp16_0.1 f40 | omega))
                      refine lv_iinc (v := z337) (lv' := [(3, .int z337), (5, .int z102), (4, .int (V 48 (8200 * b + (Int32.toNatClampNeg (V15 84 gf))))), (2, .int y14), (0, .ref (ad 5)), (1, .ref (Z.fa gf))]) hx hb dX5_work_113 hl (k := 2) rfl (by rw [ez337]; rfl) (by decide) rfl (fun ls hl => ?_)
                      refine lv_goto (tgt := 4) hx hb dX5_work_116 (by decide) ?_
                      have pq338 : (V327 5 6).toInt = ((V15 5 6)).toInt := congrArg Int32.toInt ((up2_o hV327 (by decide)).trans ((up2_k hV336 (by decide)).trans ((ajV250 5 6 rfl).trans ((ajV106 5 6 rfl).trans (up2_o hV51 (by decide))))))
                      have pq339 : (V327 67 gf).toInt = ((V15 67 gf)).toInt := congrArg Int32.toInt ((up2_o hV327 (by decide)).trans ((up2_o hV336 (by decide)).trans ((ajV250 67 gf rfl).trans ((ajV106 67 gf rfl).trans (up2_o hV51 (by decide))))))
                      have pq340 : (V327 68 gf).toInt = ((V15 68 gf)).toInt := congrArg Int32.toInt ((up2_o hV327 (by decide)).trans ((up2_o hV336 (by decide)).trans ((ajV250 68 gf rfl).trans ((ajV106 68 gf rfl).trans (up2_o hV51 (by decide))))))
                      have me341 : ME V15 V327 gf := (ME.up (ME.up (ME.tr (ME.tr (ME.up ME.rf hV51 (Or.inl ⟨by decide, by decide, Nat.le_refl _⟩)) (ME.ag ajV106 (by decide))) (ME.ag ajV250 (by decide))) hV336 (Or.inr (by omega))) hV327 (Or.inr (by omega)))
                      have pq342 : (V327 70 gf).toInt = ((V15 70 gf)).toInt := congrArg Int32.toInt ((up2_o hV327 (by decide)).trans ((up2_o hV336 (by decide)).trans ((ajV250 70 gf rfl).trans ((ajV106 70 gf rfl).trans (up2_o hV51 (by decide))))))
                      have pq343 : (V327 71 gf).toInt = ((V15 71 gf)).toInt := congrArg Int32.toInt ((up2_o hV327 (by decide)).trans ((up2_o hV336 (by decide)).trans ((ajV250 71 gf rfl).trans ((ajV106 71 gf rfl).trans (up2_o hV51 (by decide))))))
                      have pq344 : (V327 75 gf).toInt = ((V15 75 gf)).toInt := congrArg Int32.toInt ((up2_o hV327 (by decide)).trans ((up2_o hV336 (by decide)).trans ((ajV250 75 gf rfl).trans ((ajV106 75 gf rfl).trans (up2_o hV51 (by decide))))))
                      have pq345 : (V327 76 gf).toInt = ((V15 76 gf)).toInt := congrArg Int32.toInt ((up2_o hV327 (by decide)).trans ((up2_o hV336 (by decide)).trans ((ajV250 76 gf rfl).trans ((ajV106 76 gf rfl).trans (up2_o hV51 (by decide))))))
                      have pq346 : (V327 80 gf).toInt = ((V15 80 gf)).toInt := congrArg Int32.toInt ((up2_o hV327 (by decide)).trans ((up2_o hV336 (by decide)).trans ((ajV250 80 gf rfl).trans ((ajV106 80 gf rfl).trans (up2_o hV51 (by decide))))))
                      have pq347 : (V327 84 gf).toInt = z50.toInt := congrArg Int32.toInt ((up2_o hV327 (by decide)).trans ((up2_o hV336 (by decide)).trans ((ajV250 84 gf rfl).trans ((ajV106 84 gf rfl).trans (up2_s hV51)))))
                      have pq348 : (V327 5 8).toInt = ((V 5 8)).toInt := congrArg Int32.toInt ((up2_o hV327 (by decide)).trans ((up2_k hV336 (by decide)).trans ((ajV250 5 8 rfl).trans ((ajV106 5 8 rfl).trans ((up2_o hV51 (by decide)).trans (ajV15 5 8 rfl))))))
                      have pq349 : (V327 5 9).toInt = ((V15 5 9)).toInt := congrArg Int32.toInt ((up2_o hV327 (by decide)).trans ((up2_k hV336 (by decide)).trans ((ajV250 5 9 rfl).trans ((ajV106 5 9 rfl).trans (up2_o hV51 (by decide))))))
                      have pq350 : (V327 3 13).toInt = ((V 3 13)).toInt := congrArg Int32.toInt ((up2_o hV327 (by decide)).trans ((up2_o hV336 (by decide)).trans ((ajV250 3 13 rfl).trans ((ajV106 3 13 rfl).trans ((up2_o hV51 (by decide)).trans (ajV15 3 13 rfl))))))
                      have pq351 : (V327 43 (5 * b + 2)).toInt = ((V 43 (5 * b + 2))).toInt := congrArg Int32.toInt ((up2_o hV327 (by decide)).trans ((up2_o hV336 (by decide)).trans ((ajV250 43 (5 * b + 2) rfl).trans ((ajV106 43 (5 * b + 2) rfl).trans ((up2_o hV51 (by decide)).trans (ajV15 43 (5 * b + 2) rfl))))))
                      have pq352 : (V327 42 b).toInt = ((V 42 b)).toInt := congrArg Int32.toInt ((up2_o hV327 (by decide)).trans ((up2_o hV336 (by decide)).trans ((ajV250 42 b rfl).trans ((ajV106 42 b rfl).trans ((up2_o hV51 (by decide)).trans (ajV15 42 b rfl))))))
                      have pq353 : (V327 41 b).toInt = ((V 41 b)).toInt := congrArg Int32.toInt ((up2_o hV327 (by decide)).trans ((up2_o hV336 (by decide)).trans ((ajV250 41 b rfl).trans ((ajV106 41 b rfl).trans ((up2_o hV51 (by decide)).trans (ajV15 41 b rfl))))))
                      have ep356 : V327 84 gf = z50 := ((up2_o hV327 (by decide)).trans ((up2_o hV336 (by decide)).trans ((ajV250 84 gf rfl).trans ((ajV106 84 gf rfl).trans (up2_s hV51)))))
                      have af355 : (V327 42 b).toInt ≤ (V327 84 gf).toInt ∨ (bdp V327 b (V327 84 gf).toInt.toNat).1 = true := by rw [ep356, me341.1.bd, me341.1 42 b (by decide) (by decide)]; exact atn
                      have mo354 : MO V327 Z b gf True True True := MO.ch xlp16_0 me341 ((up2_o hV327 (by decide)).trans ((up2_o hV336 (by decide)).trans ((ajV250 67 gf rfl).trans ((ajV106 67 gf rfl).trans (up2_o hV51 (by decide)))))) ((up2_o hV327 (by decide)).trans ((up2_o hV336 (by decide)).trans ((ajV250 80 gf rfl).trans ((ajV106 80 gf rfl).trans (up2_o hV51 (by decide)))))) (fun _ => Or.inl (by omega)) (fun x h => FK.k4 (by omega) (by omega) (by omega) af355 (by omega) (fun hph => absurd hph (by omega)))
                      have op9 := OQ.op oq9
                      have cd9 := (bc28).1.2 at9.toNat hi9
                      have ka9 : Int32.toNatClampNeg (V15 84 gf) = psz (opf gB.1) at9.toNat := by have h9 := i_clamp (x := V15 84 gf) rfl (by (first | exact om_eafa9039069c r21.1 | omega)); omega
                      have c48 : (V 48 (8200 * b + (Int32.toNatClampNeg (V15 84 gf)))).toInt = enO (opf gB.1 at9.toNat) := by have h9 := cd9.1; rw [← ka9] at h9; exact (congrArg Int32.toInt (ajV15 48 (8200 * b + (Int32.toNatClampNeg (V15 84 gf))) rfl)).symm.trans h9
                      have en9 : 5 ≤ opf gB.1 at9.toNat ∧ opf gB.1 at9.toNat ≤ 9 := enO_59 op9 (by rw [← c48]; omega) (by rw [← c48]; omega)
                      obtain ⟨t8, lp9, q8, oq8⟩ := OQ.i5 oq9 en9
                      obtain ⟨x9, y9, p9, hpe⟩ : ∃ x9 y9 p9, p = x9 :: y9 :: p9 := by rcases p with _ | ⟨x, _ | ⟨y, q⟩⟩; (exact absurd lp9 (by simp)); (exact absurd lp9 (by simp)); exact ⟨x, y, q, rfl⟩
                      have tl9 : ∃ t : Nat, (V15 5 7).toInt = ((t : Nat) : Int) ∧ 2 ≤ t ∧ t ≤ 2000 := by obtain ⟨_, _, _, t, ht, t0, h1, _⟩ := id rw9; have h2 := RWl.tot (show RWl V15 gB (f2 :: gr) t from by obtain ⟨_, _, _, t7, ht7, hl7⟩ := rw9; rw [show t = t7 from by omega]; exact hl7); have h3 : totP (f2 :: gr) ≤ 2000 := (GOs.sf go2).2.1; rw [hfe, hpe] at h1; have h4 : t = t0 + (p9.length + 1 + 1) := h1; exact ⟨t, ht, by omega, by omega⟩
                      obtain ⟨tw9, ht9, tg9, tm9⟩ := tl9
                      have pq357 : (V51 5 7).toInt = ((V15 5 7)).toInt := congrArg Int32.toInt (up2_o hV51 (by decide))
                      have pq358 : (V106 5 7).toInt = ((V15 5 7)).toInt := congrArg Int32.toInt ((ajV106 5 7 rfl).trans (up2_o hV51 (by decide)))
                      exact ihlp16 z337 y14 V327 H locs ls (by (first | exact om_4c7236201e99 r12.2 klp16_0.1 f40 hz337 | omega)) (by (first | exact om_1b1f2d1cff90 klp16_1.1 klp16_1.2 | omega)) mo354 (show (gf : Int) + 1 = (V327 5 6).toInt from by (first | exact om_6e5bbaaa0e03 xlp16_1 pq338 | omega)) (show (V327 67 gf).toInt = 4 from by (first | exact om_ac6651f4ff0c xlp16_2 pq339 | omega)) (show (V327 68 gf).toInt = 0 from by (first | exact om_36161e850215 xlp16_3 pq340 | omega)) (by exfalso; omega) (by (first | exact om_5e93b663c12e hn hz337 | omega)) (agr.up (agr.up (agr.tr (agr.tr (agr.up (agr.tr agr.rf ajV15 (by decide) (by decide)) hV51 rfl) ajV106 (by decide) (by decide)) ajV250 (by decide) (by decide)) hV336 rfl) hV327 rfl) hMV327 hP hD hS (lv_sub hl [0, 3, 4, 5] rfl)
                    · skip
                      have ajV327 : agr [] [] V250 V327 := by rw [hw332]; exact agr.rf
                      refine lv_goto (tgt := 113) hx hb dX5_work_102 (by decide) ?_
                      obtain ⟨z359, ez359⟩ : ∃ y : Int32, y = y13 + 1 := ⟨_, rfl⟩
                      have hz359 : z359.toInt = y13.toInt + 1 := i_add ez359 rfl (by decide) (by (first | exact om_f150dd2841b6 r12.2 klp16_0.1 f40 | omega))
                      refine lv_iinc (v := z359) (lv' := [(3, .int z359), (5, .int z102), (4, .int (V 48 (8200 * b + (Int32.toNatClampNeg (V15 84 gf))))), (2, .int y14), (0, .ref (ad 5)), (1, .ref (Z.fa gf))]) hx hb dX5_work_113 hl (k := 2) rfl (by rw [ez359]; rfl) (by decide) rfl (fun ls hl => ?_)
                      refine lv_goto (tgt := 4) hx hb dX5_work_116 (by decide) ?_
                      have pq360 : (V327 5 6).toInt = ((V15 5 6)).toInt := congrArg Int32.toInt ((ajV327 5 6 rfl).trans ((ajV250 5 6 rfl).trans ((ajV106 5 6 rfl).trans (up2_o hV51 (by decide)))))
                      have pq361 : (V327 67 gf).toInt = ((V15 67 gf)).toInt := congrArg Int32.toInt ((ajV327 67 gf rfl).trans ((ajV250 67 gf rfl).trans ((ajV106 67 gf rfl).trans (up2_o hV51 (by decide)))))
                      have pq362 : (V327 68 gf).toInt = ((V15 68 gf)).toInt := congrArg Int32.toInt ((ajV327 68 gf rfl).trans ((ajV250 68 gf rfl).trans ((ajV106 68 gf rfl).trans (up2_o hV51 (by decide)))))
                      have me363 : ME V15 V327 gf := (ME.tr (ME.tr (ME.tr (ME.up ME.rf hV51 (Or.inl ⟨by decide, by decide, Nat.le_refl _⟩)) (ME.ag ajV106 (by decide))) (ME.ag ajV250 (by decide))) (ME.ag ajV327 (by decide)))
                      have pq364 : (V327 70 gf).toInt = ((V15 70 gf)).toInt := congrArg Int32.toInt ((ajV327 70 gf rfl).trans ((ajV250 70 gf rfl).trans ((ajV106 70 gf rfl).trans (up2_o hV51 (by decide)))))
                      have pq365 : (V327 71 gf).toInt = ((V15 71 gf)).toInt := congrArg Int32.toInt ((ajV327 71 gf rfl).trans ((ajV250 71 gf rfl).trans ((ajV106 71 gf rfl).trans (up2_o hV51 (by decide)))))
                      have pq366 : (V327 75 gf).toInt = ((V15 75 gf)).toInt := congrArg Int32.toInt ((ajV327 75 gf rfl).trans ((ajV250 75 gf rfl).trans ((ajV106 75 gf rfl).trans (up2_o hV51 (by decide)))))
                      have pq367 : (V327 76 gf).toInt = ((V15 76 gf)).toInt := congrArg Int32.toInt ((ajV327 76 gf rfl).trans ((ajV250 76 gf rfl).trans ((ajV106 76 gf rfl).trans (up2_o hV51 (by decide)))))
                      have pq368 : (V327 80 gf).toInt = ((V15 80 gf)).toInt := congrArg Int32.toInt ((ajV327 80 gf rfl).trans ((ajV250 80 gf rfl).trans ((ajV106 80 gf rfl).trans (up2_o hV51 (by decide)))))
                      have pq369 : (V327 84 gf).toInt = z50.toInt := congrArg Int32.toInt ((ajV327 84 gf rfl).trans ((ajV250 84 gf rfl).trans ((ajV106 84 gf rfl).trans (up2_s hV51))))
                      have pq370 : (V327 5 8).toInt = ((V 5 8)).toInt := congrArg Int32.toInt ((ajV327 5 8 rfl).trans ((ajV250 5 8 rfl).trans ((ajV106 5 8 rfl).trans ((up2_o hV51 (by decide)).trans (ajV15 5 8 rfl)))))
                      have pq371 : (V327 5 9).toInt = ((V15 5 9)).toInt := congrArg Int32.toInt ((ajV327 5 9 rfl).trans ((ajV250 5 9 rfl).trans ((ajV106 5 9 rfl).trans (up2_o hV51 (by decide)))))
                      have pq372 : (V327 3 13).toInt = ((V 3 13)).toInt := congrArg Int32.toInt ((ajV327 3 13 rfl).trans ((ajV250 3 13 rfl).trans ((ajV106 3 13 rfl).trans ((up2_o hV51 (by decide)).trans (ajV15 3 13 rfl)))))
                      have pq373 : (V327 43 (5 * b + 2)).toInt = ((V 43 (5 * b + 2))).toInt := congrArg Int32.toInt ((ajV327 43 (5 * b + 2) rfl).trans ((ajV250 43 (5 * b + 2) rfl).trans ((ajV106 43 (5 * b + 2) rfl).trans ((up2_o hV51 (by decide)).trans (ajV15 43 (5 * b + 2) rfl)))))
                      have pq374 : (V327 42 b).toInt = ((V 42 b)).toInt := congrArg Int32.toInt ((ajV327 42 b rfl).trans ((ajV250 42 b rfl).trans ((ajV106 42 b rfl).trans ((up2_o hV51 (by decide)).trans (ajV15 42 b rfl)))))
                      have pq375 : (V327 41 b).toInt = ((V 41 b)).toInt := congrArg Int32.toInt ((ajV327 41 b rfl).trans ((ajV250 41 b rfl).trans ((ajV106 41 b rfl).trans ((up2_o hV51 (by decide)).trans (ajV15 41 b rfl)))))
                      have af377 : (V327 42 b).toInt ≤ (V327 84 gf).toInt ∨ (bdp V327 b (V327 84 gf).toInt.toNat).1 = true := by rw [((ajV327 84 gf rfl).trans ((ajV250 84 gf rfl).trans ((ajV106 84 gf rfl).trans (up2_s hV51)))), me363.1.bd, me363.1 42 b (by decide) (by decide)]; exact atn
                      have mo376 : MO V327 Z b gf True True True := MO.ch xlp16_0 me363 ((ajV327 67 gf rfl).trans ((ajV250 67 gf rfl).trans ((ajV106 67 gf rfl).trans (up2_o hV51 (by decide))))) ((ajV327 80 gf rfl).trans ((ajV250 80 gf rfl).trans ((ajV106 80 gf rfl).trans (up2_o hV51 (by decide))))) (fun _ => Or.inl (by omega)) (fun x h => FK.k4 (by omega) (by omega) (by omega) af377 (by omega) (fun hph => absurd hph (by omega)))
                      have op9 := OQ.op oq9
                      have cd9 := (bc28).1.2 at9.toNat hi9
                      have ka9 : Int32.toNatClampNeg (V15 84 gf) = psz (opf gB.1) at9.toNat := by have h9 := i_clamp (x := V15 84 gf) rfl (by (first | exact om_eafa9039069c r21.1 | omega)); omega
                      have c48 : (V 48 (8200 * b + (Int32.toNatClampNeg (V15 84 gf)))).toInt = enO (opf gB.1 at9.toNat) := by have h9 := cd9.1; rw [← ka9] at h9; exact (congrArg Int32.toInt (ajV15 48 (8200 * b + (Int32.toNatClampNeg (V15 84 gf))) rfl)).symm.trans h9
                      have en9 : 5 ≤ opf gB.1 at9.toNat ∧ opf gB.1 at9.toNat ≤ 9 := enO_59 op9 (by rw [← c48]; omega) (by rw [← c48]; omega)
                      obtain ⟨t8, lp9, q8, oq8⟩ := OQ.i5 oq9 en9
                      obtain ⟨x9, y9, p9, hpe⟩ : ∃ x9 y9 p9, p = x9 :: y9 :: p9 := by rcases p with _ | ⟨x, _ | ⟨y, q⟩⟩; (exact absurd lp9 (by simp)); (exact absurd lp9 (by simp)); exact ⟨x, y, q, rfl⟩
                      have tl9 : ∃ t : Nat, (V15 5 7).toInt = ((t : Nat) : Int) ∧ 2 ≤ t ∧ t ≤ 2000 := by obtain ⟨_, _, _, t, ht, t0, h1, _⟩ := id rw9; have h2 := RWl.tot (show RWl V15 gB (f2 :: gr) t from by obtain ⟨_, _, _, t7, ht7, hl7⟩ := rw9; rw [show t = t7 from by omega]; exact hl7); have h3 : totP (f2 :: gr) ≤ 2000 := (GOs.sf go2).2.1; rw [hfe, hpe] at h1; have h4 : t = t0 + (p9.length + 1 + 1) := h1; exact ⟨t, ht, by omega, by omega⟩
                      obtain ⟨tw9, ht9, tg9, tm9⟩ := tl9
                      have pq378 : (V51 5 7).toInt = ((V15 5 7)).toInt := congrArg Int32.toInt (up2_o hV51 (by decide))
                      have r379 : 0 ≤ ((V15 5 7)).toInt ∧ ((V15 5 7)).toInt ≤ 2048 := hMV15 5 7
                      have pq380 : (V106 5 7).toInt = ((V15 5 7)).toInt := congrArg Int32.toInt ((ajV106 5 7 rfl).trans (up2_o hV51 (by decide)))
                      have pq381 : (V250 5 7).toInt = ((V15 5 7)).toInt := congrArg Int32.toInt ((ajV250 5 7 rfl).trans ((ajV106 5 7 rfl).trans (up2_o hV51 (by decide))))
                      exact ihlp16 z359 y14 V327 H locs ls (by (first | exact om_4c7236201e99 r12.2 klp16_0.1 f40 hz359 | omega)) (by (first | exact om_1b1f2d1cff90 klp16_1.1 klp16_1.2 | omega)) mo376 (show (gf : Int) + 1 = (V327 5 6).toInt from by (first | exact om_6e5bbaaa0e03 xlp16_1 pq360 | omega)) (show (V327 67 gf).toInt = 4 from by (first | exact om_ac6651f4ff0c xlp16_2 pq361 | omega)) (show (V327 68 gf).toInt = 0 from by (first | exact om_36161e850215 xlp16_3 pq362 | omega)) (by exfalso; (first | exact om_dcd912c4e31c hc254.1 hc331 pq380 pq381 | omega)) (by (first | exact om_5e93b663c12e hn hz359 | omega)) (agr.tr (agr.tr (agr.tr (agr.up (agr.tr agr.rf ajV15 (by decide) (by decide)) hV51 rfl) ajV106 (by decide) (by decide)) ajV250 (by decide) (by decide)) ajV327 (by decide) (by decide)) hMV327 hP hD hS (lv_sub hl [0, 3, 4, 5] rfl)
            · skip
              have f382 : 10 ≤ ((V 48 (8200 * b + (Int32.toNatClampNeg (V15 84 gf))))).toInt := b_nlt rfl (by decide) c55
              refine lv_aload_n hx hb dX5_work_64 rfl (lv_at hl 3 rfl) ?_
              refine lv_aload_n hx hb dX5_work_65 rfl (lv_at hl 4 rfl) ?_
              refine lv_iload hx hb dX5_work_66 (lv_at hl 0 rfl) ?_
              have pq383 : (V51 5 6).toInt = ((V15 5 6)).toInt := congrArg Int32.toInt (up2_o hV51 (by decide))
              have pq384 : (V51 67 gf).toInt = ((V15 67 gf)).toInt := congrArg Int32.toInt (up2_o hV51 (by decide))
              have pq385 : (V51 68 gf).toInt = ((V15 68 gf)).toInt := congrArg Int32.toInt (up2_o hV51 (by decide))
              have moa386 : MOa V51 Z b gf := MOa.up (MO.a xlp16_0 (by (first | exact om_c88e7ce0b8a2 xlp16_2 | omega)) (by (first | exact om_7ed1cb9eefb0 r12.2 pq27 | omega))) hV51
              have me387 : ME V15 V51 0 := (ME.up ME.rf hV51 (Or.inl ⟨by decide, by decide, by omega⟩))
              have hop388 : ∀ a : Nat, (a : Int) = (V51 84 gf).toInt → (a : Int) < (V51 42 b).toInt → okO V51 b ((V 48 (8200 * b + (Int32.toNatClampNeg (V15 84 gf))))).toInt (V51 48 (8200 * b + a)).toInt ∧ (bdp V51 b (a + 1)).1 = true := fun a ha hl => cd_op mup.2.2.1 me387.1 hbd (by omega) (by omega) a (by omega) hl
              have bc389 : BKc V51 b gB := BKc.b4 bc (agr.b4 (show agr [(5, 6), (5, 7), (5, 9), (5, 10), (5, 11), (5, 12), (5, 13), (5, 14)] [39, 67, 68, 69, 70, 71, 72, 73, 74, 75, 76, 77, 78, 79, 80, 81, 82, 83, 84, 85] V V51 from (agr.up (agr.tr agr.rf ajV15 (by decide) (by decide)) hV51 rfl)) (by decide))
              refine gA_int (gA_runV (As := [.ref (Z.fa gf), .int (V 48 (8200 * b + (Int32.toNatClampNeg (V15 84 gf))))]) (rest := []) (ci := 5) (q0 := 5) hx hb hml hown hg hP hD hK hS hA hnw hgk (x_worksWith9 l D ks H.size ad kk V51 L Z (V 48 (8200 * b + (Int32.toNatClampNeg (V15 84 gf)))) (b) (gf) (gB) (m2) (ga) (f2) (gr) ((V15 84 gf)) hMV51 (by omega) (show b < 2 from by (first | exact om_f940a4667dd6 hb2 | omega)) (show gf < Z.nf from by (first | exact om_8c5722e49bb1 hgf | omega)) moa386 (show (gf : Int) + 1 = (V51 5 6).toInt from by (first | exact om_6e5bbaaa0e03 xlp16_1 pq383 | omega)) (show (V51 67 gf).toInt = 4 from by (first | exact om_ac6651f4ff0c xlp16_2 pq384 | omega)) (show (V51 68 gf).toInt = 0 from by (first | exact om_36161e850215 xlp16_3 pq385 | omega)) (show (V51 84 gf).toInt ≤ 8200 from by (first | exact om_e3dfe80441bf r12.2 f47 hz50 pq54 | omega)) hop388 rwx9 bc389 (GOs.sf go2) (show (V51 84 gf).toInt = (V15 84 gf).toInt + 1 from by (first | exact om_689eeacb6d53 hz50 pq54 | omega)) (show 0 ≤ (V15 84 gf).toInt from by (first | exact om_eafa9039069c r21.1 | omega)) op7) w1478 w1480 w75 w171 w1481 rfl xgMachine hdV_yX5_worksWith ⟨Nat.le_of_ble_eq_true rfl, Nat.le_of_ble_eq_true rfl⟩ rfl hl.1 rfl (Nat.le_of_ble_eq_true rfl) dX5_work_68 ⟨z0, z0⟩) hP hD hK hS hA (fun z390 u391 H locs w392 hP hD hK hS => ?_)
              obtain ⟨V397, L398⟩ := u391
              obtain ⟨hMV397, ajV397, axL398, rgz390, t393, t394, t395, t396⟩ := w392
              have axL398 : L = L398 := Eq.symm axL398
              subst axL398
              replace hP : va_P D vwCl (xw ad kk V397 L Z) H := hP
              replace hD : va_D A (xw ad kk V397 L Z) := hD
              replace hMV397 : rgd bX V397 := hMV397
              replace ajV397 : agr [(5, 6), (5, 7), (5, 9), (5, 11), (5, 12)] [39, 68, 75, 77, 78, 84] V51 V397 := ajV397
              have agV397 : agr [(5, 6), (5, 7), (5, 9), (5, 10), (5, 11), (5, 12), (5, 13), (5, 14)] [39, 67, 68, 69, 70, 71, 72, 73, 74, 75, 76, 77, 78, 79, 80, 81, 82, 83, 84, 85] V V397 := agV51.tr ajV397 (by decide) (by decide)
              replace rgz390 : 0 ≤ z390.toInt ∧ z390.toInt ≤ 1 := rgz390
              replace t393 : Imp (z390.toInt = 1) (MO V397 Z b gf True True True) := t393
              replace t394 : Imp (z390.toInt = 0) (MJ V397 Z b) := t394
              replace t395 : Imp (z390.toInt = 1) ((V397 5 6).toInt = (V51 5 6).toInt ∧ (V397 67 gf).toInt = 4 ∧ (V397 68 gf).toInt = 0) := t395
              replace t396 : (z390.toInt = 1 ∧ ∃ mz8 fz8, stM gB (m2, ga, f2 :: gr) = (mz8, ga, fz8 :: gr) ∧ RW V397 gB (mz8, ga, fz8 :: gr)) ∨ (z390.toInt = 0 ∧ RW V397 gB (stM gB (m2, ga, f2 :: gr))) := t396
              have r399 : 0 ≤ ((V397 5 6)).toInt ∧ ((V397 5 6)).toInt ≤ 400 := hMV397 5 6
              refine lv_istore_n (lv' := [(2, .int z390), (4, .int (V 48 (8200 * b + (Int32.toNatClampNeg (V15 84 gf))))), (3, .int y13), (0, .ref (ad 5)), (1, .ref (Z.fa gf))]) hx hb dX5_work_71 rfl hl (by decide) rfl (fun ls hl => ?_)
              refine lv_goto (tgt := 113) hx hb dX5_work_72 (by decide) ?_
              by_cases hr0 : z390.toInt = 0
              · skip
                obtain ⟨z400, ez400⟩ : ∃ y : Int32, y = y13 + 1 := ⟨_, rfl⟩
                have hz400 : z400.toInt = y13.toInt + 1 := i_add ez400 rfl (by decide) (by (first | exact om_f150dd2841b6 r12.2 klp16_0.1 f40 | omega))
                refine lv_iinc (v := z400) (lv' := [(3, .int z400), (2, .int z390), (4, .int (V 48 (8200 * b + (Int32.toNatClampNeg (V15 84 gf))))), (0, .ref (ad 5)), (1, .ref (Z.fa gf))]) hx hb dX5_work_113 hl (k := 2) rfl (by rw [ez400]; rfl) (by decide) rfl (fun ls hl => ?_)
                refine lv_goto (tgt := 4) hx hb dX5_work_116 (by decide) ?_
                refine lv_iload_n hx hb dX5_work_4 rfl (lv_at hl 1 rfl) ?_
                refine lv_if_eq (tgt := 119) hx hb dX5_work_5 (by decide) (fun c401 => ?_) (fun c401 => ?_)
                · skip
                  have f402 : z390.toInt = 0 := b_eq rfl (by decide) c401
                  refine W.know (fun kr1 kr2 => ?_)
                  refine W.widen (k := zcc Z) (n := zss Z) (Nat.sub_le _ _) (Nat.sub_le _ _) ?_
                  exact W.vret hx hb hr (fun t ht hW => ⟨⟨(V397, L, Z), rfl, ⟨hMV397, agV397, rfl, zoZ, (Imp.go t394 (by (first | exact om_b1799fcf2d63 rgz390.1 f402 | omega))), ⟨n9 + 1, by omega, (by rw [rnM_add, er9]; exact (t396.resolve_left (fun h9 => by have h8 := h9.1; omega)).2)⟩⟩, ⟨by rw [ht]; exact hP, va_K.moved hW.alike hK, hD⟩, by rw [ht]; exact kr1, by rw [ht]; exact kr2⟩, hS.F ht⟩) hS.2.2 dX5_work_119
                · skip
                  have f403 : z390.toInt ≠ 0 := b_neq rfl (by decide) c401
                  exfalso; first | omega | ((try (have i_t395 := Imp.go t395 (by omega))); omega)
              · skip
                have hr1 : z390.toInt = 1 := by omega
                have mo404 : MO V397 Z b gf True True True := Imp.go t393 hr1
                have hpk := Imp.go t395 hr1
                obtain ⟨z405, ez405⟩ : ∃ y : Int32, y = y13 + 1 := ⟨_, rfl⟩
                have hz405 : z405.toInt = y13.toInt + 1 := i_add ez405 rfl (by decide) (by (first | exact om_f150dd2841b6 r12.2 klp16_0.1 f40 | omega))
                refine lv_iinc (v := z405) (lv' := [(3, .int z405), (2, .int z390), (4, .int (V 48 (8200 * b + (Int32.toNatClampNeg (V15 84 gf))))), (0, .ref (ad 5)), (1, .ref (Z.fa gf))]) hx hb dX5_work_113 hl (k := 2) rfl (by rw [ez405]; rfl) (by decide) rfl (fun ls hl => ?_)
                refine lv_goto (tgt := 4) hx hb dX5_work_116 (by decide) ?_
                have pq406 : (V397 67 gf).toInt = ((V15 67 gf)).toInt := congrArg Int32.toInt ((ajV397 67 gf rfl).trans (up2_o hV51 (by decide)))
                exact ihlp16 z405 z390 V397 H locs ls (by first | exact om_4c7236201e99 r12.2 klp16_0.1 f40 hz405 | first | omega | ((try (have i_t395 := Imp.go t395 (by omega))); omega)) (by first | exact om_e6bad570a1f1 rgz390.2 hr1 | first | omega | ((try (have i_t395 := Imp.go t395 (by omega))); omega)) mo404 (show (gf : Int) + 1 = (V397 5 6).toInt from by first | exact om_697b823fa352 xlp16_1 pq383 ((Imp.go t395 (hr1)).1) | first | omega | ((try (have i_t395 := Imp.go t395 (by omega))); omega)) (show (V397 67 gf).toInt = 4 from by first | exact om_ac6651f4ff0c xlp16_2 pq406 | first | omega | ((try (have i_t395 := Imp.go t395 (by omega))); omega)) (show (V397 68 gf).toInt = 0 from by first | exact om_b66ba74381d5 ((Imp.go t395 (hr1)).2.2) | first | omega | ((try (have i_t395 := Imp.go t395 (by omega))); omega)) (by obtain ⟨m3, f3, e3, r3⟩ := (t396.resolve_right (fun h9 => by have h8 := h9.1; omega)).2; exact ⟨n9 + 1, m3, f3, (by rw [rnM_add, er9]; exact e3), r3, (by rw [← e3]; exact GOs.nx go2), Or.inr (by omega)⟩) (by first | exact om_5e93b663c12e hn hz405 | first | omega | ((try (have i_t395 := Imp.go t395 (by omega))); omega)) (agr.tr (agr.up (agr.tr agr.rf ajV15 (by decide) (by decide)) hV51 rfl) ajV397 (by decide) (by decide)) hMV397 hP hD hS (lv_sub hl [0, 1, 3, 4] rfl)
  have r407 : Int32.toInt 0 = 0 := by decide
  have r408 : Int32.toInt 1 = 1 := by decide
  exact lp16 ((8200 - (Int32.toInt 0) + 1 : Int).toNat) 0 1 V H locs ls (by decide) (by decide) mo (show (gf : Int) + 1 = (V 5 6).toInt from by (first | exact om_b7eb86266639 gd | omega)) (show (V 67 gf).toInt = 4 from by (first | exact om_c88e7ce0b8a2 gk | omega)) (show (V 68 gf).toInt = 0 from by (first | exact om_b66ba74381d5 gph | omega)) ⟨0, gm, gfr, rfl, rwq, go9, Or.inl (by decide)⟩ (by (first | exact om_fef0be1a3cbf | omega)) agr.rf hMV hP hD hS (lv_sub hl [0, 1, 2, 3] rfl)
end
section
theorem up2_id {V : Vf} {c k : Nat} {z : Int32} (h : V c k = z) : up2 V c k z = V := by
  funext x j
  by_cases q : x = c ∧ j = k
  · rw [q.1, q.2, h]
    exact up2_s rfl
  · rw [up2_pl q]


abbrev r_x_goOnWorking9 (Z : XZ) : Room := { frames := 6, cells := zcc Z, slots := zss Z, locals := 137 }
abbrev q_x_goOnWorking9 (D : va_G) (ks : KS) (ad : Nat → Nat) (kk : Nat → ClassId) (V : Vf) (L : Lf) (Z : XZ) (b : Nat) (gf : Nat) (gB : Bk) (gm : Mm) (ga : Int32) (gfr : Fr) (gr : List Fr) (A : Nat → Prop) : Array Value → State → Outcome → State → Prop := qZv D (fun (u : Vf × Lf × XZ) => rgd bX u.1 ∧ agr [(3, 15), (5, 6), (5, 7), (5, 9), (5, 10), (5, 11), (5, 12), (5, 13), (5, 14)] [30, 31, 32, 39, 67, 68, 69, 70, 71, 72, 73, 74, 75, 76, 77, 78, 79, 80, 81, 82, 83, 84, 85] V u.1 ∧ u.2.1 = L ∧ ZL Z u.2.2 ∧ (MJ u.1 u.2.2 b) ∧ (∃ n, 1 ≤ n ∧ RW u.1 gB (rnM gB n (gm, ga, gfr :: gr)))) (fun u => xw ad kk u.1 u.2.1 u.2.2) (fun u => xty kk u.2.2) (fun u => zcc Z - zcc u.2.2) (fun u => zss Z - zss u.2.2) A
set_option maxHeartbeats 4000000 in
set_option maxRecDepth 100000 in
theorem x_goOnWorking9 (l : Launch) (D : va_G) (ks : KS) (sz : Nat) (ad : Nat → Nat) (kk : Nat → ClassId) (V : Vf) (L : Lf) (Z : XZ) (b : Nat) (gf : Nat) (gB : Bk) (gm : Mm) (ga : Int32) (gfr : Fr) (gr : List Fr) (hMV : rgd bX V) (hb2 : b < 2) (hgf : gf < Z.nf) (mo : MO V Z b gf True (QN V b) (QN V b)) (gd : (gf : Int) + 1 = (V 5 6).toInt) (gk : (V 67 gf).toInt = 4) (rwq : RW V gB (gm, ga, gfr :: gr)) (bc : BKc V b gB) (sf : SF gB (gm, ga, gfr :: gr)) (go9 : GOs gB (gm, ga, gfr :: gr))  : Met l yX5_goOnWorking (Cond.code yX5_goOnWorking cX5_goOnWorking 2 none :: GW) (r_x_goOnWorking9 Z) (va_Pc [.ref (ad 5), .ref (Z.fa gf)] (gp D ks (xw ad kk V L Z) (xty kk Z) sz)) (q_x_goOnWorking9 D ks ad kk V L Z  b gf gB gm ga gfr gr (va_A (xw ad kk V L Z) sz)) (zcc Z) (zss Z) (va_A (xw ad kk V L Z) sz) := by
  refine g_met (q_x_goOnWorking9 D ks ad kk V L Z  b gf gB gm ga gfr gr) (by decide) (Nat.le_of_ble_eq_true rfl) ?_
  intro p e s m below meth c A ls H locs hx hb hr hml hown hg hlocks hin hnw hgk hP hK hD hS hA hl
  replace hown : s.vm.findClass RX5 = some m.cls := hown
  replace hl : lv_has ls 2 [(0, .ref (ad 5)), (1, .ref (Z.fa gf))] := hl
  replace hP : va_P D vwCl (xw ad kk V L Z) H := hP
  replace hD : va_D A (xw ad kk V L Z) := hD
  replace hK : va_K D vwCl (xty kk Z) s := hK
  have agV : agr [(3, 15), (5, 6), (5, 7), (5, 9), (5, 10), (5, 11), (5, 12), (5, 13), (5, 14)] [30, 31, 32, 39, 67, 68, 69, 70, 71, 72, 73, 74, 75, 76, 77, 78, 79, 80, 81, 82, 83, 84, 85] V V := agr.rf
  have zoZ : ZL Z Z := ZL.rf
  refine W.know (fun ka kb => ?_)
  refine W.tight (k := zcc Z - zcc Z) (n := zss Z - zss Z) (by (first | exact om_7244b830ee02 ka | omega)) (by (first | exact om_7244b830ee02 kb | omega)) ?_
  have r1 : 0 ≤ ((V 5 6)).toInt ∧ ((V 5 6)).toInt ≤ 400 := hMV 5 6
  have kdp := i_clamp (x := V 5 6) rfl (by (first | exact om_e301311e2a25 gd r1 | omega))
  have hdn : (gf : Int) + 1 ≤ (Z.nf : Int) := by (first | exact om_bb8713a56da6 hgf gd kdp | omega)
  have mup := MO.up mo
  have msz := mup.1
  have mbk := mup.2.2.2.1
  obtain ⟨xk, fk⟩ := MO.fk mo
  have r2 : (-1) ≤ ((V 71 gf)).toInt ∧ ((V 71 gf)).toInt ≤ 23 := hMV 71 gf
  have r3 : 0 ≤ ((V 75 gf)).toInt ∧ ((V 75 gf)).toInt ≤ 12 := hMV 75 gf
  have r4 : 0 ≤ ((V 80 gf)).toInt ∧ ((V 80 gf)).toInt ≤ 300 := hMV 80 gf
  have r5 : 0 ≤ ((V 84 gf)).toInt ∧ ((V 84 gf)).toInt ≤ 2147483647 := hMV 84 gf
  have r6 : 0 ≤ ((V 5 8)).toInt ∧ ((V 5 8)).toInt ≤ 300 := hMV 5 8
  have r7 : 0 ≤ ((V 5 9)).toInt ∧ ((V 5 9)).toInt ≤ 3 := hMV 5 9
  have r8 : 0 ≤ ((V 3 13)).toInt ∧ ((V 3 13)).toInt ≤ 300 := hMV 3 13
  have r9 : 0 ≤ ((V 43 (5 * b + 2))).toInt ∧ ((V 43 (5 * b + 2))).toInt ≤ ((xcap (5 * b + 2) : Nat) : Int) := hMV 43 (5 * b + 2)
  have r10 : xcap (5 * b + 2) = 24 := xcap_2
  have r11 : 0 ≤ ((V 41 b)).toInt ∧ ((V 41 b)).toInt ≤ 12 := hMV 41 b
  have r12 : 0 ≤ ((V 42 b)).toInt ∧ ((V 42 b)).toInt ≤ 8200 := hMV 42 b
  have fc := fk.1 (by (first | exact om_85c82c20915f gk | omega))
  have fo := fk.2.1 (by (first | exact om_85c82c20915f gk | omega)) (by (first | exact om_d505340b4edb gk | omega))
  have ft := fk.2.2.1 (by (first | exact om_c88e7ce0b8a2 gk | omega))
  have fq := fk.2.2.2.1 (by (first | exact om_c88e7ce0b8a2 gk | omega))
  have m1 : Int32.toInt (-1) = -1 := by decide
  have rw0 := rwq
  obtain ⟨⟨ow, rn⟩, rh, rd, tw9, rt9, rl⟩ := rw0
  replace rn : RWn V ow gB gm := rn
  replace rh : RWh V gm ga := rh
  have rd2 : (V 5 6).toInt = ((gr.length + 1 : Nat) : Int) := rd
  have gl9 : gr.length = gf := by (first | exact om_737fc00ff7e4 gd kdp rd rd2 | omega)
  have sl9 : gr.length ≤ 394 := by have h9 : gr.length + 1 ≤ 395 := sf.1; (first | exact om_5c206326bd12 gd r1 kdp rd rd2 h9 | omega)
  have rh1 : (V 5 9).toInt = gm 0 6 := rh.1
  have ra2 : (V 3 13).toInt = gm 0 2 := rn.1.1.2.2.1
  have rl0 := rl
  obtain ⟨t0, tl9, hf0, hbs9, hpl9, hlr⟩ := rl0
  rw [gl9] at hf0 hbs9
  rcases FRc.k4 hf0 gk with ⟨lv, o, c, sc, me, ps, at9, v, p, hfe⟩ | ⟨lv, o, c, sc, me, ps, at9, v, p, hfe⟩ | ⟨lv, o, c, sc, at9, nd, tg, v, g, p, hfe⟩ | ⟨lv, o, c, sc, at9, nd, tg, v, g, p, hfe⟩ | ⟨lv, o, c, sc, at9, nd, tg, it, v, g, u, p, hfe⟩
  · skip
    have hf : FRc V gB gf (Fwork lv o c sc me ps at9 v p) := by rw [← hfe]; exact hf0
    have tl8 : tw9 = t0 + (Fwork lv o c sc me ps at9 v p : Fr).2.2.2.length := by rw [← hfe]; exact tl9
    obtain ⟨⟨k67, k68⟩, hoc, hps9, ⟨a0, q84⟩, q74⟩ := hf
    have tl7 : tw9 = t0 + p.length := tl8
    have hb8 : (V 85 gf).toInt = (t0 : Int) := hbs9 (by rw [hfe]; exact (by decide : (12 : Nat) ≤ 12)) (by rw [hfe]; exact (by decide : (12 : Nat) ≤ 16))
    refine lv_aload_n hx hb dX5_goOnWorking_0 rfl (lv_at hl 1 rfl) ?_
    refine va_getN (D := D) (ci := 4) (v := .int (V 68 gf)) (fs := (xfFrame V gf)) (C := RX4) (T := TX4) (N := 19) hx hb hg inX4 hown hK hP (336 + gf) (xgFrame hgf) rfl 1 (by decide) (hnw.use 1190 n1190 rfl) (fun _ h9 => h9) rfl dX5_goOnWorking_1 ?_
    refine lv_bipush (v := 6) hx hb dX5_goOnWorking_4 (by decide) ?_
    refine lv_icmp_ne (tgt := 15) hx hb dX5_goOnWorking_6 (by decide) (fun c13 => ?_) (fun c13 => ?_)
    · skip
      have f14 : ((V 68 gf)).toInt ≠ 6 := b_neq rfl (by decide) c13
      refine lv_aload_n hx hb dX5_goOnWorking_15 rfl (lv_at hl 1 rfl) ?_
      refine va_getN (D := D) (ci := 4) (v := .int (V 68 gf)) (fs := (xfFrame V gf)) (C := RX4) (T := TX4) (N := 19) hx hb hg inX4 hown hK hP (336 + gf) (xgFrame hgf) rfl 1 (by decide) (hnw.use 1190 n1190 rfl) (fun _ h9 => h9) rfl dX5_goOnWorking_16 ?_
      refine lv_if_eq (tgt := 45) hx hb dX5_goOnWorking_19 (by decide) (fun c15 => ?_) (fun c15 => ?_)
      · skip
        have f16 : ((V 68 gf)).toInt = 0 := b_eq rfl (by decide) c15
        refine lv_aload_n hx hb dX5_goOnWorking_45 rfl (lv_at hl 1 rfl) ?_
        refine lv_iconst (v := 0) hx hb dX5_goOnWorking_46 (by decide) ?_
        refine va_putN (D := D) (ci := 4) (v := .int 0) (ty := tyX4 1) (fs := (xfFrame V gf)) (C := RX4) (T := TX4) (N := 19) hx hb hg inX4 tyX4 tyX4_ok nmX4 hown hK hP hD hS (336 + gf) (xgFrame hgf) rfl 1 (by decide) (hnw.use 1190 n1190 rfl) (fun _ h9 => h9) rfl (tyX4_ok 1 (by decide)) rfl rfl (Nat.le_of_ble_eq_true rfl) dX5_goOnWorking_47 (fun H locs hP hD hS => ?_)
        obtain ⟨V17, hV17⟩ : ∃ z, z = up2 V 68 gf 0 := ⟨_, rfl⟩
        have ew18 : (xw ad kk V L Z).set (336 + gf) ((Z.fa gf), .inr (4, (xfFrame V gf).set 1 (.int 0))) = xw ad kk V17 L Z := by rw [hV17]; exact xpFrame_phase hgf
        have hP : va_P D vwCl (xw ad kk V17 L Z) H := by rw [← ew18]; exact hP
        have hD : va_D A (xw ad kk V17 L Z) := by rw [← ew18]; exact hD
        have hMV17 : rgd bX V17 := hMV.put hV17 (i_full _)
        have agV17 : agr [(3, 15), (5, 6), (5, 7), (5, 9), (5, 10), (5, 11), (5, 12), (5, 13), (5, 14)] [30, 31, 32, 39, 67, 68, 69, 70, 71, 72, 73, 74, 75, 76, 77, 78, 79, 80, 81, 82, 83, 84, 85] V V17 := agV.up hV17 rfl
        have rwx9 : RW V17 gB (gm, ga, gfr :: gr) := by rw [hV17, up2_id (Int32.toInt_inj.mp (show (V 68 gf).toInt = Int32.toInt 0 from by have h9 : Int32.toInt 0 = 0 := (by decide); (first | exact om_960abac689ec k68 h9 | omega)))]; exact rwq
        refine lv_aload_n hx hb dX5_goOnWorking_50 rfl (lv_at hl 0 rfl) ?_
        refine lv_aload_n hx hb dX5_goOnWorking_51 rfl (lv_at hl 1 rfl) ?_
        have pq19 : (V17 5 6).toInt = ((V 5 6)).toInt := congrArg Int32.toInt (up2_o hV17 (by decide))
        have pq20 : (V17 67 gf).toInt = ((V 67 gf)).toInt := congrArg Int32.toInt (up2_o hV17 (by decide))
        have pq21 : (V17 68 gf).toInt = 0 := (congrArg Int32.toInt (up2_s hV17)).trans (by decide)
        have me22 : ME V V17 gf := (ME.up ME.rf hV17 (Or.inl ⟨by decide, by decide, Nat.le_refl _⟩))
        have pq23 : (V17 70 gf).toInt = ((V 70 gf)).toInt := congrArg Int32.toInt (up2_o hV17 (by decide))
        have pq24 : (V17 71 gf).toInt = ((V 71 gf)).toInt := congrArg Int32.toInt (up2_o hV17 (by decide))
        have pq25 : (V17 75 gf).toInt = ((V 75 gf)).toInt := congrArg Int32.toInt (up2_o hV17 (by decide))
        have pq26 : (V17 76 gf).toInt = ((V 76 gf)).toInt := congrArg Int32.toInt (up2_o hV17 (by decide))
        have pq27 : (V17 80 gf).toInt = ((V 80 gf)).toInt := congrArg Int32.toInt (up2_o hV17 (by decide))
        have pq28 : (V17 84 gf).toInt = ((V 84 gf)).toInt := congrArg Int32.toInt (up2_o hV17 (by decide))
        have pq29 : (V17 5 8).toInt = ((V 5 8)).toInt := congrArg Int32.toInt (up2_o hV17 (by decide))
        have pq30 : (V17 5 9).toInt = ((V 5 9)).toInt := congrArg Int32.toInt (up2_o hV17 (by decide))
        have pq31 : (V17 3 13).toInt = ((V 3 13)).toInt := congrArg Int32.toInt (up2_o hV17 (by decide))
        have pq32 : (V17 43 (5 * b + 2)).toInt = ((V 43 (5 * b + 2))).toInt := congrArg Int32.toInt (up2_o hV17 (by decide))
        have pq33 : (V17 42 b).toInt = ((V 42 b)).toInt := congrArg Int32.toInt (up2_o hV17 (by decide))
        have pq34 : (V17 41 b).toInt = ((V 41 b)).toInt := congrArg Int32.toInt (up2_o hV17 (by decide))
        have ep37 : V17 84 gf = (V 84 gf) := (up2_o hV17 (by decide))
        have af36 : (V17 42 b).toInt ≤ (V17 84 gf).toInt ∨ (bdp V17 b (V17 84 gf).toInt.toNat).1 = true := by rw [ep37, me22.1.bd, me22.1 42 b (by decide) (by decide)]; exact ft
        have mo35 : MO V17 Z b gf True True True := MO.ch mo me22 (up2_o hV17 (by decide)) (up2_o hV17 (by decide)) (fun _ => Or.inl (by (first | exact om_85c82c20915f gk | omega))) (fun x h => FK.k4 (by (first | exact om_ac6651f4ff0c gk pq20 | omega)) (by (first | exact om_a5010b6221df r2 fc pq24 pq32 | omega)) (by (first | exact om_a5fdb8fb5692 fo ra2 pq23 pq31 | omega)) af36 (by (first | exact om_21b02c2ae35f pq21 | omega)) (fun hph => absurd hph (by (first | exact om_99bd92af3810 pq21 hph | omega))))
        have bc38 : BKc V17 b gB := BKc.b4 bc (agr.b4 (show agr [] [68] V V17 from (agr.up agr.rf hV17 rfl)) (by decide))
        refine W.know (fun k40 k41 => ?_)
        obtain ⟨Hk39, hHk39⟩ : ∃ z, z = H := ⟨_, rfl⟩
        have k40 : Hk39.size ≤ s.heap.size + (zcc Z - zcc Z) := by rw [hHk39]; exact k40
        have k41 : tot Hk39 ≤ tot s.heap + (zss Z - zss Z) := by rw [hHk39]; exact k41
        refine gZ_void (gA_runV (As := [.ref (Z.fa gf)]) (rest := []) (ci := 5) (q0 := 5) hx hb hml hown hg hP hD hK hS hA hnw hgk (x_work9 l D ks H.size ad kk V17 L Z (b) (gf) (gB) (gm) (ga) (gfr) (gr) hMV17 (show b < 2 from by (first | exact om_289974d36c9f hb2 mup | omega)) (show gf < Z.nf from by (first | exact om_d9a628b8387a hgf gd kdp rd rd2 pq19 | omega)) mo35 (show (gf : Int) + 1 = (V17 5 6).toInt from by (first | exact om_23ab2a0d3264 gd kdp rd rd2 pq19 | omega)) (show (V17 67 gf).toInt = 4 from by (first | exact om_ac6651f4ff0c gk pq20 | omega)) (show (V17 68 gf).toInt = 0 from by (first | exact om_b66ba74381d5 pq21 | omega)) rwx9 bc38 go9) w1474 w1476 w74 w171 w1477 rfl xgMachine hdV_yX5_work ⟨Nat.le_of_ble_eq_true rfl, Nat.le_of_ble_eq_true rfl⟩ rfl hl.1 rfl (Nat.le_of_ble_eq_true rfl) dX5_goOnWorking_52 ⟨z1 zoZ.1, z1 zoZ.2.1⟩) hD hS hA (fun u43 H locs w44 hP hD hK hS y45 y46 => ?_)
        obtain ⟨V47, L48, Z49⟩ := u43
        obtain ⟨hMV47, ajV47, axL48, zlZ49, t51, t52⟩ := w44
        have axL48 : L = L48 := Eq.symm axL48
        subst axL48
        replace hP : va_P D vwCl (xw ad kk V47 L Z49) H := hP
        replace hD : va_D A (xw ad kk V47 L Z49) := hD
        replace hK : va_K D vwCl (xty kk Z49) s := hK
        replace hMV47 : rgd bX V47 := hMV47
        replace ajV47 : agr [(5, 6), (5, 7), (5, 9), (5, 10), (5, 11), (5, 12), (5, 13), (5, 14)] [39, 67, 68, 69, 70, 71, 72, 73, 74, 75, 76, 77, 78, 79, 80, 81, 82, 83, 84, 85] V17 V47 := ajV47
        have agV47 : agr [(3, 15), (5, 6), (5, 7), (5, 9), (5, 10), (5, 11), (5, 12), (5, 13), (5, 14)] [30, 31, 32, 39, 67, 68, 69, 70, 71, 72, 73, 74, 75, 76, 77, 78, 79, 80, 81, 82, 83, 84, 85] V V47 := agV17.tr ajV47 (by decide) (by decide)
        replace zlZ49 : ZL Z Z49 := zlZ49
        have zoZ49 : ZL Z Z49 := ZL.tr zoZ zlZ49
        have ziZ49 := zlZ49.1
        have zjZ49 := zlZ49.2.1
        have zkZ49 := zlZ49.2.2.1
        have zmZ49 := zoZ49.1
        have znZ49 := zoZ49.2.1
        have zpZ_Z49 := zoZ.1
        have zqZ_Z49 := zoZ.2.1
        have y45 : H.size ≤ Hk39.size + (zcc Z - zcc Z49) := by rw [hHk39]; exact y45
        have y46 : tot H ≤ tot Hk39 + (zss Z - zss Z49) := by rw [hHk39]; exact y46
        refine W.tight (k := zcc Z - zcc Z49) (n := zss Z - zss Z49) (by first | exact tg9 y45 k40 zlZ49.1 zoZ.1 | omega) (by first | exact tg9 y46 k41 zlZ49.2.1 zoZ.2.1 | omega) ?_
        have hl : lv_has ls 2 [(0, .ref (ad 5)), (1, .ref (Z49.fa gf))] := by rw [zlZ49.2.2.2.2 gf hgf]; exact hl
        replace t51 : MJ V47 Z49 b := t51
        replace t52 : ∃ n, 1 ≤ n ∧ RW V47 gB (rnM gB n (gm, ga, gfr :: gr)) := t52
        refine W.know (fun kr1 kr2 => ?_)
        refine W.widen (k := zcc Z) (n := zss Z) (Nat.sub_le _ _) (Nat.sub_le _ _) ?_
        exact W.vret hx hb hr (fun t ht hW => ⟨⟨(V47, L, Z49), rfl, ⟨hMV47, agV47, rfl, zoZ49, t51, t52⟩, ⟨by rw [ht]; exact hP, va_K.moved hW.alike hK, hD⟩, by rw [ht]; exact kr1, by rw [ht]; exact kr2⟩, hS.F ht⟩) hS.2.2 dX5_goOnWorking_55
      · skip
        have f53 : ((V 68 gf)).toInt ≠ 0 := b_neq rfl (by decide) c15
        exfalso; (first | exact om_0b51723c7ef6 k68 f53 | omega)
    · skip
      have f54 : ((V 68 gf)).toInt = 6 := b_eq rfl (by decide) c13
      exfalso; (first | exact om_6ab761f4efec k68 f54 | omega)
  · skip
    have hf : FRc V gB gf (Fwait lv o c sc me ps at9 v p) := by rw [← hfe]; exact hf0
    have tl8 : tw9 = t0 + (Fwait lv o c sc me ps at9 v p : Fr).2.2.2.length := by rw [← hfe]; exact tl9
    obtain ⟨⟨k67, k68⟩, hoc, hps9, ⟨a0, q84⟩, q74⟩ := hf
    have tl7 : tw9 = t0 + p.length := tl8
    have hb8 : (V 85 gf).toInt = (t0 : Int) := hbs9 (by rw [hfe]; exact (by decide : (12 : Nat) ≤ 13)) (by rw [hfe]; exact (by decide : (13 : Nat) ≤ 16))
    refine lv_aload_n hx hb dX5_goOnWorking_0 rfl (lv_at hl 1 rfl) ?_
    refine va_getN (D := D) (ci := 4) (v := .int (V 68 gf)) (fs := (xfFrame V gf)) (C := RX4) (T := TX4) (N := 19) hx hb hg inX4 hown hK hP (336 + gf) (xgFrame hgf) rfl 1 (by decide) (hnw.use 1190 n1190 rfl) (fun _ h9 => h9) rfl dX5_goOnWorking_1 ?_
    refine lv_bipush (v := 6) hx hb dX5_goOnWorking_4 (by decide) ?_
    refine lv_icmp_ne (tgt := 15) hx hb dX5_goOnWorking_6 (by decide) (fun c55 => ?_) (fun c55 => ?_)
    · skip
      have f56 : ((V 68 gf)).toInt ≠ 6 := b_neq rfl (by decide) c55
      refine lv_aload_n hx hb dX5_goOnWorking_15 rfl (lv_at hl 1 rfl) ?_
      refine va_getN (D := D) (ci := 4) (v := .int (V 68 gf)) (fs := (xfFrame V gf)) (C := RX4) (T := TX4) (N := 19) hx hb hg inX4 hown hK hP (336 + gf) (xgFrame hgf) rfl 1 (by decide) (hnw.use 1190 n1190 rfl) (fun _ h9 => h9) rfl dX5_goOnWorking_16 ?_
      refine lv_if_eq (tgt := 45) hx hb dX5_goOnWorking_19 (by decide) (fun c57 => ?_) (fun c57 => ?_)
      · skip
        have f58 : ((V 68 gf)).toInt = 0 := b_eq rfl (by decide) c57
        exfalso; (first | exact om_495ee03a60ae k68 f58 | omega)
      · skip
        have f59 : ((V 68 gf)).toInt ≠ 0 := b_neq rfl (by decide) c57
        refine lv_aload_n hx hb dX5_goOnWorking_22 rfl (lv_at hl 0 rfl) ?_
        refine va_get (D := D) (ci := 5) (v := .int (V 5 9)) (fs := (xfMachine ad V L Z)) (C := RX5) (T := TX5) (N := 15) hx hb hg inX5 hown hK hP 5 xgMachine rfl 9 (by decide) (hg _ w676) (fun _ h9 => h9) rfl dX5_goOnWorking_23 ?_
        refine lv_iconst (v := 1) hx hb dX5_goOnWorking_26 (by decide) ?_
        refine lv_icmp_eq (tgt := 36) hx hb dX5_goOnWorking_27 (by decide) (fun c60 => ?_) (fun c60 => ?_)
        · skip
          have f61 : ((V 5 9)).toInt = 1 := b_eq rfl (by decide) c60
          have mot : MO V Z b gf True (¬ NN V b) True := MO.w mo (fun _ => trivial) (fun z => ⟨by (first | exact om_653e4e2dce96 rh1 f61 | omega), z⟩) (fun _ => Or.inl (by (first | exact om_85c82c20915f gk | omega)))
          refine lv_aload_n hx hb dX5_goOnWorking_36 rfl (lv_at hl 0 rfl) ?_
          refine lv_aload_n hx hb dX5_goOnWorking_37 rfl (lv_at hl 1 rfl) ?_
          refine W.know (fun k63 k64 => ?_)
          obtain ⟨Hk62, hHk62⟩ : ∃ z, z = H := ⟨_, rfl⟩
          have k63 : Hk62.size ≤ s.heap.size + (zcc Z - zcc Z) := by rw [hHk62]; exact k63
          have k64 : tot Hk62 ≤ tot s.heap + (zss Z - zss Z) := by rw [hHk62]; exact k64
          refine gZ_int (gA_runV (As := [.ref (Z.fa gf)]) (rest := []) (ci := 5) (q0 := 5) hx hb hml hown hg hP hD hK hS hA hnw hgk (x_takesAnswer9 l D ks H.size ad kk V L Z (b) (gf) (gB) (gm) (ga) (gfr) (gr) hMV (show b < 2 from by (first | exact om_289974d36c9f hb2 mup | omega)) (show gf < Z.nf from by (first | exact om_725d0642dd96 hgf gd kdp rd rd2 | omega)) mot (show (gf : Int) + 1 = (V 5 6).toInt from by (first | exact om_d5747674bc98 gd | omega)) (show (V 67 gf).toInt = 4 from by (first | exact om_c88e7ce0b8a2 gk | omega)) (show (V 68 gf).toInt ≠ 0 ∧ (V 68 gf).toInt ≠ 6 from by (first | exact om_4039963caf1a k68 | omega)) rwq bc sf go9 (show (V 5 9).toInt = 1 from by (first | exact om_653e4e2dce96 rh1 f61 | omega))) w1462 w1464 w71 w171 w1465 rfl xgMachine hdV_yX5_takesAnswer ⟨Nat.le_of_ble_eq_true rfl, Nat.le_of_ble_eq_true rfl⟩ rfl hl.1 rfl (Nat.le_of_ble_eq_true rfl) dX5_goOnWorking_38 ⟨z1 zoZ.1, z1 zoZ.2.1⟩) hD hS hA (fun z65 u66 H locs w67 hP hD hK hS y68 y69 => ?_)
          obtain ⟨V70, L71, Z72⟩ := u66
          obtain ⟨hMV70, ajV70, axL71, zlZ72, rgz65, t74, t75, t76, t77, t78⟩ := w67
          have axL71 : L = L71 := Eq.symm axL71
          subst axL71
          replace hP : va_P D vwCl (xw ad kk V70 L Z72) H := hP
          replace hD : va_D A (xw ad kk V70 L Z72) := hD
          replace hK : va_K D vwCl (xty kk Z72) s := hK
          replace hMV70 : rgd bX V70 := hMV70
          replace ajV70 : agr [(3, 15), (5, 6), (5, 7), (5, 9)] [30, 31, 32, 39, 67, 68, 69, 70, 71, 72, 73, 74, 75, 76, 77, 78, 79, 80, 81, 82, 83, 84, 85] V V70 := ajV70
          have agV70 : agr [(3, 15), (5, 6), (5, 7), (5, 9), (5, 10), (5, 11), (5, 12), (5, 13), (5, 14)] [30, 31, 32, 39, 67, 68, 69, 70, 71, 72, 73, 74, 75, 76, 77, 78, 79, 80, 81, 82, 83, 84, 85] V V70 := agV.tr ajV70 (by decide) (by decide)
          replace zlZ72 : ZL Z Z72 := zlZ72
          have zoZ72 : ZL Z Z72 := ZL.tr zoZ zlZ72
          have ziZ72 := zlZ72.1
          have zjZ72 := zlZ72.2.1
          have zkZ72 := zlZ72.2.2.1
          have zmZ72 := zoZ72.1
          have znZ72 := zoZ72.2.1
          have zpZ_Z72 := zoZ.1
          have zqZ_Z72 := zoZ.2.1
          have y68 : H.size ≤ Hk62.size + (zcc Z - zcc Z72) := by rw [hHk62]; exact y68
          have y69 : tot H ≤ tot Hk62 + (zss Z - zss Z72) := by rw [hHk62]; exact y69
          refine W.tight (k := zcc Z - zcc Z72) (n := zss Z - zss Z72) (by first | exact tg9 y68 k63 zlZ72.1 zoZ.1 | omega) (by first | exact tg9 y69 k64 zlZ72.2.1 zoZ.2.1 | omega) ?_
          have hl : lv_has ls 2 [(0, .ref (ad 5)), (1, .ref (Z72.fa gf))] := by rw [zlZ72.2.2.2.2 gf hgf]; exact hl
          replace rgz65 : 0 ≤ z65.toInt ∧ z65.toInt ≤ 1 := rgz65
          replace t74 : Imp (z65.toInt = 1) (MO V70 Z72 b gf True True True) := t74
          replace t75 : Imp (z65.toInt = 0) (MJ V70 Z72 b) := t75
          replace t76 : Imp (z65.toInt = 1) ((V70 5 6).toInt = (V 5 6).toInt ∧ (V70 67 gf).toInt = 4) := t76
          replace t77 : Imp (z65.toInt = 1) (Z72 = Z) := t77
          replace t78 : (z65.toInt = 1 ∧ ∃ fz8, stM gB (gm, ga, gfr :: gr) = (gm, ga, fz8 :: gr) ∧ RW (up2 V70 68 gf 0) gB (gm, ga, fz8 :: gr)) ∨ (z65.toInt = 0 ∧ RW V70 gB (stM gB (gm, ga, gfr :: gr))) := t78
          have r79 : 0 ≤ ((V70 5 6)).toInt ∧ ((V70 5 6)).toInt ≤ 400 := hMV70 5 6
          refine lv_if_ne (tgt := 45) hx hb dX5_goOnWorking_41 (by decide) (fun c80 => ?_) (fun c80 => ?_)
          · skip
            have f81 : z65.toInt ≠ 0 := b_neq rfl (by decide) c80
            have hr1 : z65.toInt = 1 := by (first | exact om_c7d7c2afe6e6 rgz65 f81 | omega)
            have ezz : Z72 = Z := Imp.go t77 hr1
            have hP : va_P D vwCl (xw ad kk V70 L Z) H := by rw [← ezz]; exact hP
            have hD : va_D A (xw ad kk V70 L Z) := by rw [← ezz]; exact hD
            have hK : va_K D vwCl (xty kk Z) s := by rw [← ezz]; exact hK
            have hl : lv_has ls 2 [(0, .ref (ad 5)), (1, .ref (Z.fa gf))] := by rw [← ezz]; exact hl
            rw [ezz]
            have mo82 : MO V70 Z b gf True True True := by rw [← ezz]; exact Imp.go t74 hr1
            have hpk := Imp.go t76 hr1
            have mup := MO.up mo82
            have msz := mup.1
            have mbk := mup.2.2.2.1
            obtain ⟨xk, fk⟩ := MO.fk mo82
            have r83 : (-1) ≤ ((V70 71 gf)).toInt ∧ ((V70 71 gf)).toInt ≤ 23 := hMV70 71 gf
            have r84 : 0 ≤ ((V70 75 gf)).toInt ∧ ((V70 75 gf)).toInt ≤ 12 := hMV70 75 gf
            have r85 : 0 ≤ ((V70 80 gf)).toInt ∧ ((V70 80 gf)).toInt ≤ 300 := hMV70 80 gf
            have r86 : 0 ≤ ((V70 84 gf)).toInt ∧ ((V70 84 gf)).toInt ≤ 2147483647 := hMV70 84 gf
            have pq87 : (V70 5 8).toInt = ((V 5 8)).toInt := congrArg Int32.toInt (ajV70 5 8 rfl)
            have r88 : 0 ≤ ((V70 5 9)).toInt ∧ ((V70 5 9)).toInt ≤ 3 := hMV70 5 9
            have pq89 : (V70 3 13).toInt = ((V 3 13)).toInt := congrArg Int32.toInt (ajV70 3 13 rfl)
            have pq90 : (V70 43 (5 * b + 2)).toInt = ((V 43 (5 * b + 2))).toInt := congrArg Int32.toInt (ajV70 43 (5 * b + 2) rfl)
            have pq91 : (V70 41 b).toInt = ((V 41 b)).toInt := congrArg Int32.toInt (ajV70 41 b rfl)
            have pq92 : (V70 42 b).toInt = ((V 42 b)).toInt := congrArg Int32.toInt (ajV70 42 b rfl)
            have fc := fk.1 (by (first | exact om_44d4c4f9f7ef hpk | omega))
            have fo := fk.2.1 (by (first | exact om_44d4c4f9f7ef hpk | omega)) (by (first | exact om_2ced1a512586 hpk | omega))
            have ft := fk.2.2.1 (by (first | exact om_860d07f16e45 hpk | omega))
            have fq := fk.2.2.2.1 (by (first | exact om_860d07f16e45 hpk | omega))
            refine lv_aload_n hx hb dX5_goOnWorking_45 rfl (lv_at hl 1 rfl) ?_
            refine lv_iconst (v := 0) hx hb dX5_goOnWorking_46 (by decide) ?_
            refine va_putN (D := D) (ci := 4) (v := .int 0) (ty := tyX4 1) (fs := (xfFrame V70 gf)) (C := RX4) (T := TX4) (N := 19) hx hb hg inX4 tyX4 tyX4_ok nmX4 hown hK hP hD hS (336 + gf) (xgFrame hgf) rfl 1 (by decide) (hnw.use 1190 n1190 rfl) (fun _ h9 => h9) rfl (tyX4_ok 1 (by decide)) rfl rfl (Nat.le_of_ble_eq_true rfl) dX5_goOnWorking_47 (fun H locs hP hD hS => ?_)
            obtain ⟨V93, hV93⟩ : ∃ z, z = up2 V70 68 gf 0 := ⟨_, rfl⟩
            have ew94 : (xw ad kk V70 L Z).set (336 + gf) ((Z.fa gf), .inr (4, (xfFrame V70 gf).set 1 (.int 0))) = xw ad kk V93 L Z := by rw [hV93]; exact xpFrame_phase hgf
            have hP : va_P D vwCl (xw ad kk V93 L Z) H := by rw [← ew94]; exact hP
            have hD : va_D A (xw ad kk V93 L Z) := by rw [← ew94]; exact hD
            have hMV93 : rgd bX V93 := hMV70.put hV93 (i_full _)
            have agV93 : agr [(3, 15), (5, 6), (5, 7), (5, 9), (5, 10), (5, 11), (5, 12), (5, 13), (5, 14)] [30, 31, 32, 39, 67, 68, 69, 70, 71, 72, 73, 74, 75, 76, 77, 78, 79, 80, 81, 82, 83, 84, 85] V V93 := agV70.up hV93 rfl
            obtain ⟨f2, sx9, ru9⟩ := (t78.resolve_right (fun h9 => by have h8 := h9.1; (first | exact om_0cbcd509a04c hr1 h9 | omega))).2
            have rwx9 : RW V93 gB (gm, ga, f2 :: gr) := by rw [hV93]; exact ru9
            have gox9 : GOs gB (gm, ga, f2 :: gr) := by rw [← sx9]; exact GOs.nx go9
            refine lv_aload_n hx hb dX5_goOnWorking_50 rfl (lv_at hl 0 rfl) ?_
            refine lv_aload_n hx hb dX5_goOnWorking_51 rfl (lv_at hl 1 rfl) ?_
            have pq95 : (V93 5 6).toInt = ((V70 5 6)).toInt := congrArg Int32.toInt (up2_o hV93 (by decide))
            have pq96 : (V93 67 gf).toInt = ((V70 67 gf)).toInt := congrArg Int32.toInt (up2_o hV93 (by decide))
            have pq97 : (V93 68 gf).toInt = 0 := (congrArg Int32.toInt (up2_s hV93)).trans (by decide)
            have me98 : ME V70 V93 gf := (ME.up ME.rf hV93 (Or.inl ⟨by decide, by decide, Nat.le_refl _⟩))
            have pq99 : (V93 70 gf).toInt = ((V70 70 gf)).toInt := congrArg Int32.toInt (up2_o hV93 (by decide))
            have pq100 : (V93 71 gf).toInt = ((V70 71 gf)).toInt := congrArg Int32.toInt (up2_o hV93 (by decide))
            have pq101 : (V93 75 gf).toInt = ((V70 75 gf)).toInt := congrArg Int32.toInt (up2_o hV93 (by decide))
            have pq102 : (V93 76 gf).toInt = ((V70 76 gf)).toInt := congrArg Int32.toInt (up2_o hV93 (by decide))
            have pq103 : (V93 80 gf).toInt = ((V70 80 gf)).toInt := congrArg Int32.toInt (up2_o hV93 (by decide))
            have pq104 : (V93 84 gf).toInt = ((V70 84 gf)).toInt := congrArg Int32.toInt (up2_o hV93 (by decide))
            have pq105 : (V93 5 8).toInt = ((V 5 8)).toInt := congrArg Int32.toInt ((up2_o hV93 (by decide)).trans (ajV70 5 8 rfl))
            have pq106 : (V93 5 9).toInt = ((V70 5 9)).toInt := congrArg Int32.toInt (up2_o hV93 (by decide))
            have pq107 : (V93 3 13).toInt = ((V 3 13)).toInt := congrArg Int32.toInt ((up2_o hV93 (by decide)).trans (ajV70 3 13 rfl))
            have pq108 : (V93 43 (5 * b + 2)).toInt = ((V 43 (5 * b + 2))).toInt := congrArg Int32.toInt ((up2_o hV93 (by decide)).trans (ajV70 43 (5 * b + 2) rfl))
            have pq109 : (V93 42 b).toInt = ((V 42 b)).toInt := congrArg Int32.toInt ((up2_o hV93 (by decide)).trans (ajV70 42 b rfl))
            have pq110 : (V93 41 b).toInt = ((V 41 b)).toInt := congrArg Int32.toInt ((up2_o hV93 (by decide)).trans (ajV70 41 b rfl))
            have ep113 : V93 84 gf = (V70 84 gf) := (up2_o hV93 (by decide))
            have af112 : (V93 42 b).toInt ≤ (V93 84 gf).toInt ∨ (bdp V93 b (V93 84 gf).toInt.toNat).1 = true := by rw [ep113, me98.1.bd, me98.1 42 b (by decide) (by decide)]; exact ft
            have mo111 : MO V93 Z b gf True True True := MO.ch mo82 me98 (up2_o hV93 (by decide)) (up2_o hV93 (by decide)) (fun _ => Or.inl (by (first | exact om_44d4c4f9f7ef hpk | omega))) (fun x h => FK.k4 (by first | exact om_aa3d8c2f563d hpk pq96 | first | omega | ((try (have i_t76 := Imp.go t76 (by omega))); omega)) (by first | exact om_55df0db36d78 r83 pq90 fc pq100 pq108 | first | omega | ((try (have i_t76 := Imp.go t76 (by omega))); omega)) (by first | exact om_a90b064d0ba2 ra2 pq89 fo pq99 pq107 | first | omega | ((try (have i_t76 := Imp.go t76 (by omega))); omega)) af112 (by first | exact om_21b02c2ae35f pq97 | first | omega | ((try (have i_t76 := Imp.go t76 (by omega))); omega)) (fun hph => absurd hph (by (first | exact om_99bd92af3810 pq97 hph | omega))))
            have bc114 : BKc V93 b gB := BKc.b4 bc (agr.b4 (show agr [(3, 15), (5, 6), (5, 7), (5, 9)] [30, 31, 32, 39, 67, 68, 69, 70, 71, 72, 73, 74, 75, 76, 77, 78, 79, 80, 81, 82, 83, 84, 85] V V93 from (agr.up (agr.tr agr.rf ajV70 (by decide) (by decide)) hV93 rfl)) (by decide))
            refine W.know (fun k116 k117 => ?_)
            obtain ⟨Hk115, hHk115⟩ : ∃ z, z = H := ⟨_, rfl⟩
            have k116 : Hk115.size ≤ s.heap.size + (zcc Z - zcc Z) := by rw [hHk115]; exact k116
            have k117 : tot Hk115 ≤ tot s.heap + (zss Z - zss Z) := by rw [hHk115]; exact k117
            refine gZ_void (gA_runV (As := [.ref (Z.fa gf)]) (rest := []) (ci := 5) (q0 := 5) hx hb hml hown hg hP hD hK hS hA hnw hgk (x_work9 l D ks H.size ad kk V93 L Z (b) (gf) (gB) (gm) (ga) (f2) (gr) hMV93 (show b < 2 from by first | exact om_289974d36c9f hb2 mup | first | omega | ((try (have i_t76 := Imp.go t76 (by omega))); omega)) (show gf < Z.nf from by first | exact om_39a2747553fe hgf gd kdp rd rd2 hpk pq95 | first | omega | ((try (have i_t76 := Imp.go t76 (by omega))); omega)) mo111 (show (gf : Int) + 1 = (V93 5 6).toInt from by first | exact om_774be6a865fd gd kdp rd rd2 hpk pq95 | first | omega | ((try (have i_t76 := Imp.go t76 (by omega))); omega)) (show (V93 67 gf).toInt = 4 from by first | exact om_aa3d8c2f563d hpk pq96 | first | omega | ((try (have i_t76 := Imp.go t76 (by omega))); omega)) (show (V93 68 gf).toInt = 0 from by first | exact om_b66ba74381d5 pq97 | first | omega | ((try (have i_t76 := Imp.go t76 (by omega))); omega)) rwx9 bc114 gox9) w1474 w1476 w74 w171 w1477 rfl xgMachine hdV_yX5_work ⟨Nat.le_of_ble_eq_true rfl, Nat.le_of_ble_eq_true rfl⟩ rfl hl.1 rfl (Nat.le_of_ble_eq_true rfl) dX5_goOnWorking_52 ⟨z1 zoZ.1, z1 zoZ.2.1⟩) hD hS hA (fun u119 H locs w120 hP hD hK hS y121 y122 => ?_)
            obtain ⟨V123, L124, Z125⟩ := u119
            obtain ⟨hMV123, ajV123, axL124, zlZ125, t127, t128⟩ := w120
            have axL124 : L = L124 := Eq.symm axL124
            subst axL124
            replace hP : va_P D vwCl (xw ad kk V123 L Z125) H := hP
            replace hD : va_D A (xw ad kk V123 L Z125) := hD
            replace hK : va_K D vwCl (xty kk Z125) s := hK
            replace hMV123 : rgd bX V123 := hMV123
            replace ajV123 : agr [(5, 6), (5, 7), (5, 9), (5, 10), (5, 11), (5, 12), (5, 13), (5, 14)] [39, 67, 68, 69, 70, 71, 72, 73, 74, 75, 76, 77, 78, 79, 80, 81, 82, 83, 84, 85] V93 V123 := ajV123
            have agV123 : agr [(3, 15), (5, 6), (5, 7), (5, 9), (5, 10), (5, 11), (5, 12), (5, 13), (5, 14)] [30, 31, 32, 39, 67, 68, 69, 70, 71, 72, 73, 74, 75, 76, 77, 78, 79, 80, 81, 82, 83, 84, 85] V V123 := agV93.tr ajV123 (by decide) (by decide)
            replace zlZ125 : ZL Z Z125 := zlZ125
            have zoZ125 : ZL Z Z125 := ZL.tr zoZ zlZ125
            have ziZ125 := zlZ125.1
            have zjZ125 := zlZ125.2.1
            have zkZ125 := zlZ125.2.2.1
            have zmZ125 := zoZ125.1
            have znZ125 := zoZ125.2.1
            have zpZ_Z125 := zoZ.1
            have zqZ_Z125 := zoZ.2.1
            have y121 : H.size ≤ Hk115.size + (zcc Z - zcc Z125) := by rw [hHk115]; exact y121
            have y122 : tot H ≤ tot Hk115 + (zss Z - zss Z125) := by rw [hHk115]; exact y122
            refine W.tight (k := zcc Z - zcc Z125) (n := zss Z - zss Z125) (by first | exact tg9 y121 k116 zlZ125.1 zoZ.1 | omega) (by first | exact tg9 y122 k117 zlZ125.2.1 zoZ.2.1 | omega) ?_
            have hl : lv_has ls 2 [(0, .ref (ad 5)), (1, .ref (Z125.fa gf))] := by rw [zlZ125.2.2.2.2 gf hgf]; exact hl
            replace t127 : MJ V123 Z125 b := t127
            replace t128 : ∃ n, 1 ≤ n ∧ RW V123 gB (rnM gB n (gm, ga, f2 :: gr)) := t128
            refine W.know (fun kr1 kr2 => ?_)
            refine W.widen (k := zcc Z) (n := zss Z) (Nat.sub_le _ _) (Nat.sub_le _ _) ?_
            exact W.vret hx hb hr (fun t ht hW => ⟨⟨(V123, L, Z125), rfl, ⟨hMV123, agV123, rfl, zoZ125, t127, (by obtain ⟨n9, h1, h2⟩ := t128; exact ⟨1 + n9, by omega, by rw [rnM_add]; show RW _ gB (rnM gB n9 (stM gB (gm, ga, gfr :: gr))); rw [sx9]; exact h2⟩)⟩, ⟨by rw [ht]; exact hP, va_K.moved hW.alike hK, hD⟩, by rw [ht]; exact kr1, by rw [ht]; exact kr2⟩, hS.F ht⟩) hS.2.2 dX5_goOnWorking_55
          · skip
            have f129 : z65.toInt = 0 := b_eq rfl (by decide) c80
            refine W.know (fun kr1 kr2 => ?_)
            refine W.widen (k := zcc Z) (n := zss Z) (Nat.sub_le _ _) (Nat.sub_le _ _) ?_
            exact W.vret hx hb hr (fun t ht hW => ⟨⟨(V70, L, Z72), rfl, ⟨hMV70, agV70, rfl, zoZ72, (Imp.go t75 (by (first | exact om_b66ba74381d5 f129 | omega))), ⟨1, Nat.le_refl _, (t78.resolve_left (fun h9 => by have h8 := h9.1; (first | exact om_65da98921d09 f129 h9 | omega))).2⟩⟩, ⟨by rw [ht]; exact hP, va_K.moved hW.alike hK, hD⟩, by rw [ht]; exact kr1, by rw [ht]; exact kr2⟩, hS.F ht⟩) hS.2.2 dX5_goOnWorking_44
        · skip
          have f130 : ((V 5 9)).toInt ≠ 1 := b_neq rfl (by decide) c60
          refine lv_aload_n hx hb dX5_goOnWorking_30 rfl (lv_at hl 0 rfl) ?_
          refine lv_aload_n hx hb dX5_goOnWorking_31 rfl (lv_at hl 1 rfl) ?_
          have me131 : ME V V gf := ME.rf
          have af133 : (V 42 b).toInt ≤ (V 84 gf).toInt ∨ (bdp V b (V 84 gf).toInt.toNat).1 = true := by rw [me131.1.bd, me131.1 42 b (by decide) (by decide)]; exact ft
          have mo132 : MO V Z b gf True False True := MO.ch mo me131 rfl rfl (fun _ => Or.inl (by (first | exact om_85c82c20915f gk | omega))) (fun x h => FK.k4 (by (first | exact om_c88e7ce0b8a2 gk | omega)) (by (first | exact om_6076713cabb8 r2 fc | omega)) (by (first | exact om_033210b74f87 fo ra2 | omega)) af133 (by (first | exact om_fce24656d56e k68 | omega)) (fun _ z => z.elim))
          refine gA_void (gA_runV (As := [.ref (Z.fa gf)]) (rest := []) (ci := 5) (q0 := 5) hx hb hml hown hg hP hD hK hS hA hnw hgk (x_endWork9 l D ks H.size ad kk V L Z (b) (gf) hMV (show b < 2 from by (first | exact om_289974d36c9f hb2 mup | omega)) (show gf < Z.nf from by (first | exact om_725d0642dd96 hgf gd kdp rd rd2 | omega)) mo132 (show (gf : Int) + 1 = (V 5 6).toInt from by (first | exact om_d5747674bc98 gd | omega)) (show (V 67 gf).toInt = 4 from by (first | exact om_c88e7ce0b8a2 gk | omega))) w1458 w1460 w70 w171 w1461 rfl xgMachine hdV_yX5_endWork ⟨Nat.le_of_ble_eq_true rfl, Nat.le_of_ble_eq_true rfl⟩ rfl hl.1 rfl (Nat.le_of_ble_eq_true rfl) dX5_goOnWorking_32 ⟨z0, z0⟩) hP hD hK hS hA (fun u135 H locs w136 hP hD hK hS => ?_)
          obtain ⟨V139, L140⟩ := u135
          obtain ⟨hMV139, ajV139, axL140, t137, t138⟩ := w136
          have axL140 : L = L140 := Eq.symm axL140
          subst axL140
          replace hP : va_P D vwCl (xw ad kk V139 L Z) H := hP
          replace hD : va_D A (xw ad kk V139 L Z) := hD
          replace hMV139 : rgd bX V139 := hMV139
          replace ajV139 : agr [(5, 6), (5, 7)] [] V V139 := ajV139
          have agV139 : agr [(3, 15), (5, 6), (5, 7), (5, 9), (5, 10), (5, 11), (5, 12), (5, 13), (5, 14)] [30, 31, 32, 39, 67, 68, 69, 70, 71, 72, 73, 74, 75, 76, 77, 78, 79, 80, 81, 82, 83, 84, 85] V V139 := agV.tr ajV139 (by decide) (by decide)
          replace t137 : MJ V139 Z b := t137
          replace t138 : ((True) ∧ V139 = (up2 (up2 V 5 7 (V 85 gf)) 5 6 (V 5 6 - 1))) := t138
          have hw141 := t138.2
          obtain ⟨V142, hV142⟩ : ∃ z, z = up2 V 5 7 (V 85 gf) := ⟨_, rfl⟩
          obtain ⟨z143, ez143⟩ : ∃ y : Int32, y = V 5 6 - 1 := ⟨_, rfl⟩
          have hz143 : z143.toInt = (V 5 6).toInt - 1 := i_sub ez143 rfl (by decide) (by (first | exact om_62296f3213ed gd r1 kdp rd rd2 sl9 | omega))
          have hV139 : V139 = up2 V142 5 6 z143 := by rw [hw141, hV142, ez143]
          have me144 : ME V V139 gf := (ME.up (ME.up ME.rf hV142 (Or.inr (by (first | exact om_8193a90fcd76  | omega)))) hV139 (Or.inr (by (first | exact om_f481bd0f1cda  | omega))))
          have rl145 : RWl V139 gB gr t0 := RWl.mv hlr (fun i9 hi9 c9 h1 h2 => me144.2.1 c9 i9 h1 h2 (by (first | exact om_997eaf2cf217 gd kdp rd rd2 hz143 hi9 | omega))) (fun j9 hj9 => ((up2_o hV139 (by decide)).trans (up2_o hV142 (by decide)))) (by rw [((up2_o hV139 (by decide)).trans (up2_o hV142 (by decide)))]; exact Int.le_refl _) ((up2_o hV139 (by decide)).trans (up2_o hV142 (by decide)))
          have pq146 : (V139 5 6).toInt = z143.toInt := congrArg Int32.toInt (up2_s hV139)
          have pq147 : (V139 5 7).toInt = ((V 85 gf)).toInt := congrArg Int32.toInt ((up2_k hV139 (by decide)).trans (up2_s hV142))
          have pq148 : (V139 5 9).toInt = ((V 5 9)).toInt := congrArg Int32.toInt ((up2_k hV139 (by decide)).trans (up2_k hV142 (by decide)))
          have pq149 : (V139 5 11).toInt = ((V 5 11)).toInt := congrArg Int32.toInt ((up2_k hV139 (by decide)).trans (up2_k hV142 (by decide)))
          have pq150 : (V139 5 12).toInt = ((V 5 12)).toInt := congrArg Int32.toInt ((up2_k hV139 (by decide)).trans (up2_k hV142 (by decide)))
          have tp9 : (V139 5 7).toInt = ((t0 : Nat) : Int) := by rw [((up2_k hV139 (by decide)).trans (up2_s hV142))]; exact hb8
          have rz9 : RW V139 gB (gm, ga, gr) := RW.id rwq (ESw.ag (show agr [(5, 6), (5, 7)] [] V V139 from (agr.up (agr.up agr.rf hV142 rfl) hV139 rfl)) (by decide)) ((up2_k hV139 (by decide)).trans (up2_k hV142 (by decide))) ((up2_k hV139 (by decide)).trans (up2_k hV142 (by decide))) ((up2_k hV139 (by decide)).trans (up2_k hV142 (by decide))) ((up2_k hV139 (by decide)).trans (up2_k hV142 (by decide))) (show (V139 5 6).toInt = ((gr.length : Nat) : Int) from by (first | exact om_7b55b3cd7065 kdp rd rd2 hz143 pq146 | omega)) tp9 rl145
          have rx151 : RW V139 gB (stM gB (gm, ga, gfr :: gr)) := by rw [hfe, st_13n (by rw [← rh1]; (first | exact om_7e782b1958aa rh1 f130 af133 pq148 | omega))]; exact rz9
          refine W.know (fun kr1 kr2 => ?_)
          refine W.widen (k := zcc Z) (n := zss Z) (Nat.sub_le _ _) (Nat.sub_le _ _) ?_
          exact W.vret hx hb hr (fun t ht hW => ⟨⟨(V139, L, Z), rfl, ⟨hMV139, agV139, rfl, zoZ, t137, ⟨1, Nat.le_refl _, rx151⟩⟩, ⟨by rw [ht]; exact hP, va_K.moved hW.alike hK, hD⟩, by rw [ht]; exact kr1, by rw [ht]; exact kr2⟩, hS.F ht⟩) hS.2.2 dX5_goOnWorking_35
    · skip
      have f152 : ((V 68 gf)).toInt = 6 := b_eq rfl (by decide) c55
      exfalso; (first | exact om_69d0c64b97ac k68 f152 | omega)
  · skip
    have hf : FRc V gB gf (Fask lv o c sc at9 nd tg v g p) := by rw [← hfe]; exact hf0
    have tl8 : tw9 = t0 + (Fask lv o c sc at9 nd tg v g p : Fr).2.2.2.length := by rw [← hfe]; exact tl9
    obtain ⟨⟨k67, k68⟩, hoc, ⟨a0, q84⟩, q75, q77, q74, q78⟩ := hf
    have tl7 : tw9 = t0 + p.length := tl8
    have hb8 : (V 85 gf).toInt = (t0 : Int) := hbs9 (by rw [hfe]; exact (by decide : (12 : Nat) ≤ 14)) (by rw [hfe]; exact (by decide : (14 : Nat) ≤ 16))
    refine lv_aload_n hx hb dX5_goOnWorking_0 rfl (lv_at hl 1 rfl) ?_
    refine va_getN (D := D) (ci := 4) (v := .int (V 68 gf)) (fs := (xfFrame V gf)) (C := RX4) (T := TX4) (N := 19) hx hb hg inX4 hown hK hP (336 + gf) (xgFrame hgf) rfl 1 (by decide) (hnw.use 1190 n1190 rfl) (fun _ h9 => h9) rfl dX5_goOnWorking_1 ?_
    refine lv_bipush (v := 6) hx hb dX5_goOnWorking_4 (by decide) ?_
    refine lv_icmp_ne (tgt := 15) hx hb dX5_goOnWorking_6 (by decide) (fun c153 => ?_) (fun c153 => ?_)
    · skip
      have f154 : ((V 68 gf)).toInt ≠ 6 := b_neq rfl (by decide) c153
      exfalso; (first | exact om_cf5f90428ed9 k68 f154 | omega)
    · skip
      have f155 : ((V 68 gf)).toInt = 6 := b_eq rfl (by decide) c153
      refine lv_aload_n hx hb dX5_goOnWorking_9 rfl (lv_at hl 0 rfl) ?_
      refine lv_aload_n hx hb dX5_goOnWorking_10 rfl (lv_at hl 1 rfl) ?_
      refine W.know (fun k157 k158 => ?_)
      obtain ⟨Hk156, hHk156⟩ : ∃ z, z = H := ⟨_, rfl⟩
      have k157 : Hk156.size ≤ s.heap.size + (zcc Z - zcc Z) := by rw [hHk156]; exact k157
      have k158 : tot Hk156 ≤ tot s.heap + (zss Z - zss Z) := by rw [hHk156]; exact k158
      refine gZ_void (gA_runV (As := [.ref (Z.fa gf)]) (rest := []) (ci := 5) (q0 := 5) hx hb hml hown hg hP hD hK hS hA hnw hgk (x_callNeed9 l D ks H.size ad kk V L Z (b) (gf) (gB) (gm) (ga) (gfr) (gr) hMV (show b < 2 from by (first | exact om_289974d36c9f hb2 mup | omega)) (show gf < Z.nf from by (first | exact om_725d0642dd96 hgf gd kdp rd rd2 | omega)) mo (show (gf : Int) + 1 = (V 5 6).toInt from by (first | exact om_d5747674bc98 gd | omega)) (show (V 67 gf).toInt = 4 from by (first | exact om_c88e7ce0b8a2 gk | omega)) (show (V 68 gf).toInt = 6 from by (first | exact om_4b6cdf2bfd6b k68 | omega)) rwq bc sf go9) w1435 w1437 w68 w171 w1438 rfl xgMachine hdV_yX5_callNeed ⟨Nat.le_of_ble_eq_true rfl, Nat.le_of_ble_eq_true rfl⟩ rfl hl.1 rfl (Nat.le_of_ble_eq_true rfl) dX5_goOnWorking_11 ⟨z1 zoZ.1, z1 zoZ.2.1⟩) hD hS hA (fun u160 H locs w161 hP hD hK hS y162 y163 => ?_)
      obtain ⟨V164, L165, Z166⟩ := u160
      obtain ⟨hMV164, ajV164, axL165, zlZ166, t168, t169⟩ := w161
      have axL165 : L = L165 := Eq.symm axL165
      subst axL165
      replace hP : va_P D vwCl (xw ad kk V164 L Z166) H := hP
      replace hD : va_D A (xw ad kk V164 L Z166) := hD
      replace hK : va_K D vwCl (xty kk Z166) s := hK
      replace hMV164 : rgd bX V164 := hMV164
      replace ajV164 : agr [(5, 6), (5, 9), (5, 10), (5, 11), (5, 12)] [67, 68, 69, 70, 71, 72, 73, 74, 75, 76, 77, 78, 79, 80, 81, 82, 83, 84, 85] V V164 := ajV164
      have agV164 : agr [(3, 15), (5, 6), (5, 7), (5, 9), (5, 10), (5, 11), (5, 12), (5, 13), (5, 14)] [30, 31, 32, 39, 67, 68, 69, 70, 71, 72, 73, 74, 75, 76, 77, 78, 79, 80, 81, 82, 83, 84, 85] V V164 := agV.tr ajV164 (by decide) (by decide)
      replace zlZ166 : ZL Z Z166 := zlZ166
      have zoZ166 : ZL Z Z166 := ZL.tr zoZ zlZ166
      have ziZ166 := zlZ166.1
      have zjZ166 := zlZ166.2.1
      have zkZ166 := zlZ166.2.2.1
      have zmZ166 := zoZ166.1
      have znZ166 := zoZ166.2.1
      have zpZ_Z166 := zoZ.1
      have zqZ_Z166 := zoZ.2.1
      have y162 : H.size ≤ Hk156.size + (zcc Z - zcc Z166) := by rw [hHk156]; exact y162
      have y163 : tot H ≤ tot Hk156 + (zss Z - zss Z166) := by rw [hHk156]; exact y163
      refine W.tight (k := zcc Z - zcc Z166) (n := zss Z - zss Z166) (by first | exact tg9 y162 k157 zlZ166.1 zoZ.1 | omega) (by first | exact tg9 y163 k158 zlZ166.2.1 zoZ.2.1 | omega) ?_
      have hl : lv_has ls 2 [(0, .ref (ad 5)), (1, .ref (Z166.fa gf))] := by rw [zlZ166.2.2.2.2 gf hgf]; exact hl
      replace t168 : MJ V164 Z166 b := t168
      replace t169 : RW V164 gB (stM gB (gm, ga, gfr :: gr)) := t169
      refine W.know (fun kr1 kr2 => ?_)
      refine W.widen (k := zcc Z) (n := zss Z) (Nat.sub_le _ _) (Nat.sub_le _ _) ?_
      exact W.vret hx hb hr (fun t ht hW => ⟨⟨(V164, L, Z166), rfl, ⟨hMV164, agV164, rfl, zoZ166, t168, ⟨1, Nat.le_refl _, t169⟩⟩, ⟨by rw [ht]; exact hP, va_K.moved hW.alike hK, hD⟩, by rw [ht]; exact kr1, by rw [ht]; exact kr2⟩, hS.F ht⟩) hS.2.2 dX5_goOnWorking_14
  · skip
    have hf : FRc V gB gf (Fget lv o c sc at9 nd tg v g p) := by rw [← hfe]; exact hf0
    have tl8 : tw9 = t0 + (Fget lv o c sc at9 nd tg v g p : Fr).2.2.2.length := by rw [← hfe]; exact tl9
    obtain ⟨⟨k67, k68⟩, hoc, ⟨a0, q84⟩, q75, q77, q74, q78⟩ := hf
    have tl7 : tw9 = t0 + p.length := tl8
    have hb8 : (V 85 gf).toInt = (t0 : Int) := hbs9 (by rw [hfe]; exact (by decide : (12 : Nat) ≤ 15)) (by rw [hfe]; exact (by decide : (15 : Nat) ≤ 16))
    refine lv_aload_n hx hb dX5_goOnWorking_0 rfl (lv_at hl 1 rfl) ?_
    refine va_getN (D := D) (ci := 4) (v := .int (V 68 gf)) (fs := (xfFrame V gf)) (C := RX4) (T := TX4) (N := 19) hx hb hg inX4 hown hK hP (336 + gf) (xgFrame hgf) rfl 1 (by decide) (hnw.use 1190 n1190 rfl) (fun _ h9 => h9) rfl dX5_goOnWorking_1 ?_
    refine lv_bipush (v := 6) hx hb dX5_goOnWorking_4 (by decide) ?_
    refine lv_icmp_ne (tgt := 15) hx hb dX5_goOnWorking_6 (by decide) (fun c170 => ?_) (fun c170 => ?_)
    · skip
      have f171 : ((V 68 gf)).toInt ≠ 6 := b_neq rfl (by decide) c170
      refine lv_aload_n hx hb dX5_goOnWorking_15 rfl (lv_at hl 1 rfl) ?_
      refine va_getN (D := D) (ci := 4) (v := .int (V 68 gf)) (fs := (xfFrame V gf)) (C := RX4) (T := TX4) (N := 19) hx hb hg inX4 hown hK hP (336 + gf) (xgFrame hgf) rfl 1 (by decide) (hnw.use 1190 n1190 rfl) (fun _ h9 => h9) rfl dX5_goOnWorking_16 ?_
      refine lv_if_eq (tgt := 45) hx hb dX5_goOnWorking_19 (by decide) (fun c172 => ?_) (fun c172 => ?_)
      · skip
        have f173 : ((V 68 gf)).toInt = 0 := b_eq rfl (by decide) c172
        exfalso; (first | exact om_81ddc7f3d9eb k68 f173 | omega)
      · skip
        have f174 : ((V 68 gf)).toInt ≠ 0 := b_neq rfl (by decide) c172
        refine lv_aload_n hx hb dX5_goOnWorking_22 rfl (lv_at hl 0 rfl) ?_
        refine va_get (D := D) (ci := 5) (v := .int (V 5 9)) (fs := (xfMachine ad V L Z)) (C := RX5) (T := TX5) (N := 15) hx hb hg inX5 hown hK hP 5 xgMachine rfl 9 (by decide) (hg _ w676) (fun _ h9 => h9) rfl dX5_goOnWorking_23 ?_
        refine lv_iconst (v := 1) hx hb dX5_goOnWorking_26 (by decide) ?_
        refine lv_icmp_eq (tgt := 36) hx hb dX5_goOnWorking_27 (by decide) (fun c175 => ?_) (fun c175 => ?_)
        · skip
          have f176 : ((V 5 9)).toInt = 1 := b_eq rfl (by decide) c175
          have mot : MO V Z b gf True (¬ NN V b) True := MO.w mo (fun _ => trivial) (fun z => ⟨by (first | exact om_653e4e2dce96 rh1 f176 | omega), z⟩) (fun _ => Or.inl (by (first | exact om_85c82c20915f gk | omega)))
          refine lv_aload_n hx hb dX5_goOnWorking_36 rfl (lv_at hl 0 rfl) ?_
          refine lv_aload_n hx hb dX5_goOnWorking_37 rfl (lv_at hl 1 rfl) ?_
          refine W.know (fun k178 k179 => ?_)
          obtain ⟨Hk177, hHk177⟩ : ∃ z, z = H := ⟨_, rfl⟩
          have k178 : Hk177.size ≤ s.heap.size + (zcc Z - zcc Z) := by rw [hHk177]; exact k178
          have k179 : tot Hk177 ≤ tot s.heap + (zss Z - zss Z) := by rw [hHk177]; exact k179
          refine gZ_int (gA_runV (As := [.ref (Z.fa gf)]) (rest := []) (ci := 5) (q0 := 5) hx hb hml hown hg hP hD hK hS hA hnw hgk (x_takesAnswer9 l D ks H.size ad kk V L Z (b) (gf) (gB) (gm) (ga) (gfr) (gr) hMV (show b < 2 from by (first | exact om_289974d36c9f hb2 mup | omega)) (show gf < Z.nf from by (first | exact om_725d0642dd96 hgf gd kdp rd rd2 | omega)) mot (show (gf : Int) + 1 = (V 5 6).toInt from by (first | exact om_d5747674bc98 gd | omega)) (show (V 67 gf).toInt = 4 from by (first | exact om_c88e7ce0b8a2 gk | omega)) (show (V 68 gf).toInt ≠ 0 ∧ (V 68 gf).toInt ≠ 6 from by (first | exact om_dd732b8edb23 k68 | omega)) rwq bc sf go9 (show (V 5 9).toInt = 1 from by (first | exact om_653e4e2dce96 rh1 f176 | omega))) w1462 w1464 w71 w171 w1465 rfl xgMachine hdV_yX5_takesAnswer ⟨Nat.le_of_ble_eq_true rfl, Nat.le_of_ble_eq_true rfl⟩ rfl hl.1 rfl (Nat.le_of_ble_eq_true rfl) dX5_goOnWorking_38 ⟨z1 zoZ.1, z1 zoZ.2.1⟩) hD hS hA (fun z180 u181 H locs w182 hP hD hK hS y183 y184 => ?_)
          obtain ⟨V185, L186, Z187⟩ := u181
          obtain ⟨hMV185, ajV185, axL186, zlZ187, rgz180, t189, t190, t191, t192, t193⟩ := w182
          have axL186 : L = L186 := Eq.symm axL186
          subst axL186
          replace hP : va_P D vwCl (xw ad kk V185 L Z187) H := hP
          replace hD : va_D A (xw ad kk V185 L Z187) := hD
          replace hK : va_K D vwCl (xty kk Z187) s := hK
          replace hMV185 : rgd bX V185 := hMV185
          replace ajV185 : agr [(3, 15), (5, 6), (5, 7), (5, 9)] [30, 31, 32, 39, 67, 68, 69, 70, 71, 72, 73, 74, 75, 76, 77, 78, 79, 80, 81, 82, 83, 84, 85] V V185 := ajV185
          have agV185 : agr [(3, 15), (5, 6), (5, 7), (5, 9), (5, 10), (5, 11), (5, 12), (5, 13), (5, 14)] [30, 31, 32, 39, 67, 68, 69, 70, 71, 72, 73, 74, 75, 76, 77, 78, 79, 80, 81, 82, 83, 84, 85] V V185 := agV.tr ajV185 (by decide) (by decide)
          replace zlZ187 : ZL Z Z187 := zlZ187
          have zoZ187 : ZL Z Z187 := ZL.tr zoZ zlZ187
          have ziZ187 := zlZ187.1
          have zjZ187 := zlZ187.2.1
          have zkZ187 := zlZ187.2.2.1
          have zmZ187 := zoZ187.1
          have znZ187 := zoZ187.2.1
          have zpZ_Z187 := zoZ.1
          have zqZ_Z187 := zoZ.2.1
          have y183 : H.size ≤ Hk177.size + (zcc Z - zcc Z187) := by rw [hHk177]; exact y183
          have y184 : tot H ≤ tot Hk177 + (zss Z - zss Z187) := by rw [hHk177]; exact y184
          refine W.tight (k := zcc Z - zcc Z187) (n := zss Z - zss Z187) (by first | exact tg9 y183 k178 zlZ187.1 zoZ.1 | omega) (by first | exact tg9 y184 k179 zlZ187.2.1 zoZ.2.1 | omega) ?_
          have hl : lv_has ls 2 [(0, .ref (ad 5)), (1, .ref (Z187.fa gf))] := by rw [zlZ187.2.2.2.2 gf hgf]; exact hl
          replace rgz180 : 0 ≤ z180.toInt ∧ z180.toInt ≤ 1 := rgz180
          replace t189 : Imp (z180.toInt = 1) (MO V185 Z187 b gf True True True) := t189
          replace t190 : Imp (z180.toInt = 0) (MJ V185 Z187 b) := t190
          replace t191 : Imp (z180.toInt = 1) ((V185 5 6).toInt = (V 5 6).toInt ∧ (V185 67 gf).toInt = 4) := t191
          replace t192 : Imp (z180.toInt = 1) (Z187 = Z) := t192
          replace t193 : (z180.toInt = 1 ∧ ∃ fz8, stM gB (gm, ga, gfr :: gr) = (gm, ga, fz8 :: gr) ∧ RW (up2 V185 68 gf 0) gB (gm, ga, fz8 :: gr)) ∨ (z180.toInt = 0 ∧ RW V185 gB (stM gB (gm, ga, gfr :: gr))) := t193
          have r194 : 0 ≤ ((V185 5 6)).toInt ∧ ((V185 5 6)).toInt ≤ 400 := hMV185 5 6
          refine lv_if_ne (tgt := 45) hx hb dX5_goOnWorking_41 (by decide) (fun c195 => ?_) (fun c195 => ?_)
          · skip
            have f196 : z180.toInt ≠ 0 := b_neq rfl (by decide) c195
            have hr1 : z180.toInt = 1 := by (first | exact om_c7d7c2afe6e6 rgz180 f196 | omega)
            have ezz : Z187 = Z := Imp.go t192 hr1
            have hP : va_P D vwCl (xw ad kk V185 L Z) H := by rw [← ezz]; exact hP
            have hD : va_D A (xw ad kk V185 L Z) := by rw [← ezz]; exact hD
            have hK : va_K D vwCl (xty kk Z) s := by rw [← ezz]; exact hK
            have hl : lv_has ls 2 [(0, .ref (ad 5)), (1, .ref (Z.fa gf))] := by rw [← ezz]; exact hl
            rw [ezz]
            have mo197 : MO V185 Z b gf True True True := by rw [← ezz]; exact Imp.go t189 hr1
            have hpk := Imp.go t191 hr1
            have mup := MO.up mo197
            have msz := mup.1
            have mbk := mup.2.2.2.1
            obtain ⟨xk, fk⟩ := MO.fk mo197
            have r198 : (-1) ≤ ((V185 71 gf)).toInt ∧ ((V185 71 gf)).toInt ≤ 23 := hMV185 71 gf
            have r199 : 0 ≤ ((V185 75 gf)).toInt ∧ ((V185 75 gf)).toInt ≤ 12 := hMV185 75 gf
            have r200 : 0 ≤ ((V185 80 gf)).toInt ∧ ((V185 80 gf)).toInt ≤ 300 := hMV185 80 gf
            have r201 : 0 ≤ ((V185 84 gf)).toInt ∧ ((V185 84 gf)).toInt ≤ 2147483647 := hMV185 84 gf
            have pq202 : (V185 5 8).toInt = ((V 5 8)).toInt := congrArg Int32.toInt (ajV185 5 8 rfl)
            have r203 : 0 ≤ ((V185 5 9)).toInt ∧ ((V185 5 9)).toInt ≤ 3 := hMV185 5 9
            have pq204 : (V185 3 13).toInt = ((V 3 13)).toInt := congrArg Int32.toInt (ajV185 3 13 rfl)
            have pq205 : (V185 43 (5 * b + 2)).toInt = ((V 43 (5 * b + 2))).toInt := congrArg Int32.toInt (ajV185 43 (5 * b + 2) rfl)
            have pq206 : (V185 41 b).toInt = ((V 41 b)).toInt := congrArg Int32.toInt (ajV185 41 b rfl)
            have pq207 : (V185 42 b).toInt = ((V 42 b)).toInt := congrArg Int32.toInt (ajV185 42 b rfl)
            have fc := fk.1 (by (first | exact om_44d4c4f9f7ef hpk | omega))
            have fo := fk.2.1 (by (first | exact om_44d4c4f9f7ef hpk | omega)) (by (first | exact om_2ced1a512586 hpk | omega))
            have ft := fk.2.2.1 (by (first | exact om_860d07f16e45 hpk | omega))
            have fq := fk.2.2.2.1 (by (first | exact om_860d07f16e45 hpk | omega))
            refine lv_aload_n hx hb dX5_goOnWorking_45 rfl (lv_at hl 1 rfl) ?_
            refine lv_iconst (v := 0) hx hb dX5_goOnWorking_46 (by decide) ?_
            refine va_putN (D := D) (ci := 4) (v := .int 0) (ty := tyX4 1) (fs := (xfFrame V185 gf)) (C := RX4) (T := TX4) (N := 19) hx hb hg inX4 tyX4 tyX4_ok nmX4 hown hK hP hD hS (336 + gf) (xgFrame hgf) rfl 1 (by decide) (hnw.use 1190 n1190 rfl) (fun _ h9 => h9) rfl (tyX4_ok 1 (by decide)) rfl rfl (Nat.le_of_ble_eq_true rfl) dX5_goOnWorking_47 (fun H locs hP hD hS => ?_)
            obtain ⟨V208, hV208⟩ : ∃ z, z = up2 V185 68 gf 0 := ⟨_, rfl⟩
            have ew209 : (xw ad kk V185 L Z).set (336 + gf) ((Z.fa gf), .inr (4, (xfFrame V185 gf).set 1 (.int 0))) = xw ad kk V208 L Z := by rw [hV208]; exact xpFrame_phase hgf
            have hP : va_P D vwCl (xw ad kk V208 L Z) H := by rw [← ew209]; exact hP
            have hD : va_D A (xw ad kk V208 L Z) := by rw [← ew209]; exact hD
            have hMV208 : rgd bX V208 := hMV185.put hV208 (i_full _)
            have agV208 : agr [(3, 15), (5, 6), (5, 7), (5, 9), (5, 10), (5, 11), (5, 12), (5, 13), (5, 14)] [30, 31, 32, 39, 67, 68, 69, 70, 71, 72, 73, 74, 75, 76, 77, 78, 79, 80, 81, 82, 83, 84, 85] V V208 := agV185.up hV208 rfl
            obtain ⟨f2, sx9, ru9⟩ := (t193.resolve_right (fun h9 => by have h8 := h9.1; (first | exact om_0cbcd509a04c hr1 h9 | omega))).2
            have rwx9 : RW V208 gB (gm, ga, f2 :: gr) := by rw [hV208]; exact ru9
            have gox9 : GOs gB (gm, ga, f2 :: gr) := by rw [← sx9]; exact GOs.nx go9
            refine lv_aload_n hx hb dX5_goOnWorking_50 rfl (lv_at hl 0 rfl) ?_
            refine lv_aload_n hx hb dX5_goOnWorking_51 rfl (lv_at hl 1 rfl) ?_
            have pq210 : (V208 5 6).toInt = ((V185 5 6)).toInt := congrArg Int32.toInt (up2_o hV208 (by decide))
            have pq211 : (V208 67 gf).toInt = ((V185 67 gf)).toInt := congrArg Int32.toInt (up2_o hV208 (by decide))
            have pq212 : (V208 68 gf).toInt = 0 := (congrArg Int32.toInt (up2_s hV208)).trans (by decide)
            have me213 : ME V185 V208 gf := (ME.up ME.rf hV208 (Or.inl ⟨by decide, by decide, Nat.le_refl _⟩))
            have pq214 : (V208 70 gf).toInt = ((V185 70 gf)).toInt := congrArg Int32.toInt (up2_o hV208 (by decide))
            have pq215 : (V208 71 gf).toInt = ((V185 71 gf)).toInt := congrArg Int32.toInt (up2_o hV208 (by decide))
            have pq216 : (V208 75 gf).toInt = ((V185 75 gf)).toInt := congrArg Int32.toInt (up2_o hV208 (by decide))
            have pq217 : (V208 76 gf).toInt = ((V185 76 gf)).toInt := congrArg Int32.toInt (up2_o hV208 (by decide))
            have pq218 : (V208 80 gf).toInt = ((V185 80 gf)).toInt := congrArg Int32.toInt (up2_o hV208 (by decide))
            have pq219 : (V208 84 gf).toInt = ((V185 84 gf)).toInt := congrArg Int32.toInt (up2_o hV208 (by decide))
            have pq220 : (V208 5 8).toInt = ((V 5 8)).toInt := congrArg Int32.toInt ((up2_o hV208 (by decide)).trans (ajV185 5 8 rfl))
            have pq221 : (V208 5 9).toInt = ((V185 5 9)).toInt := congrArg Int32.toInt (up2_o hV208 (by decide))
            have pq222 : (V208 3 13).toInt = ((V 3 13)).toInt := congrArg Int32.toInt ((up2_o hV208 (by decide)).trans (ajV185 3 13 rfl))
            have pq223 : (V208 43 (5 * b + 2)).toInt = ((V 43 (5 * b + 2))).toInt := congrArg Int32.toInt ((up2_o hV208 (by decide)).trans (ajV185 43 (5 * b + 2) rfl))
            have pq224 : (V208 42 b).toInt = ((V 42 b)).toInt := congrArg Int32.toInt ((up2_o hV208 (by decide)).trans (ajV185 42 b rfl))
            have pq225 : (V208 41 b).toInt = ((V 41 b)).toInt := congrArg Int32.toInt ((up2_o hV208 (by decide)).trans (ajV185 41 b rfl))
            have ep228 : V208 84 gf = (V185 84 gf) := (up2_o hV208 (by decide))
            have af227 : (V208 42 b).toInt ≤ (V208 84 gf).toInt ∨ (bdp V208 b (V208 84 gf).toInt.toNat).1 = true := by rw [ep228, me213.1.bd, me213.1 42 b (by decide) (by decide)]; exact ft
            have mo226 : MO V208 Z b gf True True True := MO.ch mo197 me213 (up2_o hV208 (by decide)) (up2_o hV208 (by decide)) (fun _ => Or.inl (by (first | exact om_44d4c4f9f7ef hpk | omega))) (fun x h => FK.k4 (by first | exact om_aa3d8c2f563d hpk pq211 | first | omega | ((try (have i_t191 := Imp.go t191 (by omega))); omega)) (by first | exact om_55df0db36d78 r198 pq205 fc pq215 pq223 | first | omega | ((try (have i_t191 := Imp.go t191 (by omega))); omega)) (by first | exact om_a90b064d0ba2 ra2 pq204 fo pq214 pq222 | first | omega | ((try (have i_t191 := Imp.go t191 (by omega))); omega)) af227 (by first | exact om_21b02c2ae35f pq212 | first | omega | ((try (have i_t191 := Imp.go t191 (by omega))); omega)) (fun hph => absurd hph (by (first | exact om_99bd92af3810 pq212 hph | omega))))
            have bc229 : BKc V208 b gB := BKc.b4 bc (agr.b4 (show agr [(3, 15), (5, 6), (5, 7), (5, 9)] [30, 31, 32, 39, 67, 68, 69, 70, 71, 72, 73, 74, 75, 76, 77, 78, 79, 80, 81, 82, 83, 84, 85] V V208 from (agr.up (agr.tr agr.rf ajV185 (by decide) (by decide)) hV208 rfl)) (by decide))
            refine W.know (fun k231 k232 => ?_)
            obtain ⟨Hk230, hHk230⟩ : ∃ z, z = H := ⟨_, rfl⟩
            have k231 : Hk230.size ≤ s.heap.size + (zcc Z - zcc Z) := by rw [hHk230]; exact k231
            have k232 : tot Hk230 ≤ tot s.heap + (zss Z - zss Z) := by rw [hHk230]; exact k232
            refine gZ_void (gA_runV (As := [.ref (Z.fa gf)]) (rest := []) (ci := 5) (q0 := 5) hx hb hml hown hg hP hD hK hS hA hnw hgk (x_work9 l D ks H.size ad kk V208 L Z (b) (gf) (gB) (gm) (ga) (f2) (gr) hMV208 (show b < 2 from by first | exact om_289974d36c9f hb2 mup | first | omega | ((try (have i_t191 := Imp.go t191 (by omega))); omega)) (show gf < Z.nf from by first | exact om_39a2747553fe hgf gd kdp rd rd2 hpk pq210 | first | omega | ((try (have i_t191 := Imp.go t191 (by omega))); omega)) mo226 (show (gf : Int) + 1 = (V208 5 6).toInt from by first | exact om_774be6a865fd gd kdp rd rd2 hpk pq210 | first | omega | ((try (have i_t191 := Imp.go t191 (by omega))); omega)) (show (V208 67 gf).toInt = 4 from by first | exact om_aa3d8c2f563d hpk pq211 | first | omega | ((try (have i_t191 := Imp.go t191 (by omega))); omega)) (show (V208 68 gf).toInt = 0 from by first | exact om_b66ba74381d5 pq212 | first | omega | ((try (have i_t191 := Imp.go t191 (by omega))); omega)) rwx9 bc229 gox9) w1474 w1476 w74 w171 w1477 rfl xgMachine hdV_yX5_work ⟨Nat.le_of_ble_eq_true rfl, Nat.le_of_ble_eq_true rfl⟩ rfl hl.1 rfl (Nat.le_of_ble_eq_true rfl) dX5_goOnWorking_52 ⟨z1 zoZ.1, z1 zoZ.2.1⟩) hD hS hA (fun u234 H locs w235 hP hD hK hS y236 y237 => ?_)
            obtain ⟨V238, L239, Z240⟩ := u234
            obtain ⟨hMV238, ajV238, axL239, zlZ240, t242, t243⟩ := w235
            have axL239 : L = L239 := Eq.symm axL239
            subst axL239
            replace hP : va_P D vwCl (xw ad kk V238 L Z240) H := hP
            replace hD : va_D A (xw ad kk V238 L Z240) := hD
            replace hK : va_K D vwCl (xty kk Z240) s := hK
            replace hMV238 : rgd bX V238 := hMV238
            replace ajV238 : agr [(5, 6), (5, 7), (5, 9), (5, 10), (5, 11), (5, 12), (5, 13), (5, 14)] [39, 67, 68, 69, 70, 71, 72, 73, 74, 75, 76, 77, 78, 79, 80, 81, 82, 83, 84, 85] V208 V238 := ajV238
            have agV238 : agr [(3, 15), (5, 6), (5, 7), (5, 9), (5, 10), (5, 11), (5, 12), (5, 13), (5, 14)] [30, 31, 32, 39, 67, 68, 69, 70, 71, 72, 73, 74, 75, 76, 77, 78, 79, 80, 81, 82, 83, 84, 85] V V238 := agV208.tr ajV238 (by decide) (by decide)
            replace zlZ240 : ZL Z Z240 := zlZ240
            have zoZ240 : ZL Z Z240 := ZL.tr zoZ zlZ240
            have ziZ240 := zlZ240.1
            have zjZ240 := zlZ240.2.1
            have zkZ240 := zlZ240.2.2.1
            have zmZ240 := zoZ240.1
            have znZ240 := zoZ240.2.1
            have zpZ_Z240 := zoZ.1
            have zqZ_Z240 := zoZ.2.1
            have y236 : H.size ≤ Hk230.size + (zcc Z - zcc Z240) := by rw [hHk230]; exact y236
            have y237 : tot H ≤ tot Hk230 + (zss Z - zss Z240) := by rw [hHk230]; exact y237
            refine W.tight (k := zcc Z - zcc Z240) (n := zss Z - zss Z240) (by first | exact tg9 y236 k231 zlZ240.1 zoZ.1 | omega) (by first | exact tg9 y237 k232 zlZ240.2.1 zoZ.2.1 | omega) ?_
            have hl : lv_has ls 2 [(0, .ref (ad 5)), (1, .ref (Z240.fa gf))] := by rw [zlZ240.2.2.2.2 gf hgf]; exact hl
            replace t242 : MJ V238 Z240 b := t242
            replace t243 : ∃ n, 1 ≤ n ∧ RW V238 gB (rnM gB n (gm, ga, f2 :: gr)) := t243
            refine W.know (fun kr1 kr2 => ?_)
            refine W.widen (k := zcc Z) (n := zss Z) (Nat.sub_le _ _) (Nat.sub_le _ _) ?_
            exact W.vret hx hb hr (fun t ht hW => ⟨⟨(V238, L, Z240), rfl, ⟨hMV238, agV238, rfl, zoZ240, t242, (by obtain ⟨n9, h1, h2⟩ := t243; exact ⟨1 + n9, by omega, by rw [rnM_add]; show RW _ gB (rnM gB n9 (stM gB (gm, ga, gfr :: gr))); rw [sx9]; exact h2⟩)⟩, ⟨by rw [ht]; exact hP, va_K.moved hW.alike hK, hD⟩, by rw [ht]; exact kr1, by rw [ht]; exact kr2⟩, hS.F ht⟩) hS.2.2 dX5_goOnWorking_55
          · skip
            have f244 : z180.toInt = 0 := b_eq rfl (by decide) c195
            refine W.know (fun kr1 kr2 => ?_)
            refine W.widen (k := zcc Z) (n := zss Z) (Nat.sub_le _ _) (Nat.sub_le _ _) ?_
            exact W.vret hx hb hr (fun t ht hW => ⟨⟨(V185, L, Z187), rfl, ⟨hMV185, agV185, rfl, zoZ187, (Imp.go t190 (by (first | exact om_b66ba74381d5 f244 | omega))), ⟨1, Nat.le_refl _, (t193.resolve_left (fun h9 => by have h8 := h9.1; (first | exact om_65da98921d09 f244 h9 | omega))).2⟩⟩, ⟨by rw [ht]; exact hP, va_K.moved hW.alike hK, hD⟩, by rw [ht]; exact kr1, by rw [ht]; exact kr2⟩, hS.F ht⟩) hS.2.2 dX5_goOnWorking_44
        · skip
          have f245 : ((V 5 9)).toInt ≠ 1 := b_neq rfl (by decide) c175
          refine lv_aload_n hx hb dX5_goOnWorking_30 rfl (lv_at hl 0 rfl) ?_
          refine lv_aload_n hx hb dX5_goOnWorking_31 rfl (lv_at hl 1 rfl) ?_
          have me246 : ME V V gf := ME.rf
          have af248 : (V 42 b).toInt ≤ (V 84 gf).toInt ∨ (bdp V b (V 84 gf).toInt.toNat).1 = true := by rw [me246.1.bd, me246.1 42 b (by decide) (by decide)]; exact ft
          have mo247 : MO V Z b gf True False True := MO.ch mo me246 rfl rfl (fun _ => Or.inl (by (first | exact om_85c82c20915f gk | omega))) (fun x h => FK.k4 (by (first | exact om_c88e7ce0b8a2 gk | omega)) (by (first | exact om_6076713cabb8 r2 fc | omega)) (by (first | exact om_033210b74f87 fo ra2 | omega)) af248 (by (first | exact om_06c7973e0104 r3 fq hbs9 k68 q75 f171 f174 f245 af248 | omega)) (fun _ z => z.elim))
          refine gA_void (gA_runV (As := [.ref (Z.fa gf)]) (rest := []) (ci := 5) (q0 := 5) hx hb hml hown hg hP hD hK hS hA hnw hgk (x_endWork9 l D ks H.size ad kk V L Z (b) (gf) hMV (show b < 2 from by (first | exact om_289974d36c9f hb2 mup | omega)) (show gf < Z.nf from by (first | exact om_725d0642dd96 hgf gd kdp rd rd2 | omega)) mo247 (show (gf : Int) + 1 = (V 5 6).toInt from by (first | exact om_d5747674bc98 gd | omega)) (show (V 67 gf).toInt = 4 from by (first | exact om_c88e7ce0b8a2 gk | omega))) w1458 w1460 w70 w171 w1461 rfl xgMachine hdV_yX5_endWork ⟨Nat.le_of_ble_eq_true rfl, Nat.le_of_ble_eq_true rfl⟩ rfl hl.1 rfl (Nat.le_of_ble_eq_true rfl) dX5_goOnWorking_32 ⟨z0, z0⟩) hP hD hK hS hA (fun u250 H locs w251 hP hD hK hS => ?_)
          obtain ⟨V254, L255⟩ := u250
          obtain ⟨hMV254, ajV254, axL255, t252, t253⟩ := w251
          have axL255 : L = L255 := Eq.symm axL255
          subst axL255
          replace hP : va_P D vwCl (xw ad kk V254 L Z) H := hP
          replace hD : va_D A (xw ad kk V254 L Z) := hD
          replace hMV254 : rgd bX V254 := hMV254
          replace ajV254 : agr [(5, 6), (5, 7)] [] V V254 := ajV254
          have agV254 : agr [(3, 15), (5, 6), (5, 7), (5, 9), (5, 10), (5, 11), (5, 12), (5, 13), (5, 14)] [30, 31, 32, 39, 67, 68, 69, 70, 71, 72, 73, 74, 75, 76, 77, 78, 79, 80, 81, 82, 83, 84, 85] V V254 := agV.tr ajV254 (by decide) (by decide)
          replace t252 : MJ V254 Z b := t252
          replace t253 : ((True) ∧ V254 = (up2 (up2 V 5 7 (V 85 gf)) 5 6 (V 5 6 - 1))) := t253
          have hw256 := t253.2
          obtain ⟨V257, hV257⟩ : ∃ z, z = up2 V 5 7 (V 85 gf) := ⟨_, rfl⟩
          obtain ⟨z258, ez258⟩ : ∃ y : Int32, y = V 5 6 - 1 := ⟨_, rfl⟩
          have hz258 : z258.toInt = (V 5 6).toInt - 1 := i_sub ez258 rfl (by decide) (by (first | exact om_62296f3213ed gd r1 kdp rd rd2 sl9 | omega))
          have hV254 : V254 = up2 V257 5 6 z258 := by rw [hw256, hV257, ez258]
          have me259 : ME V V254 gf := (ME.up (ME.up ME.rf hV257 (Or.inr (by (first | exact om_8193a90fcd76  | omega)))) hV254 (Or.inr (by (first | exact om_f481bd0f1cda  | omega))))
          have rl260 : RWl V254 gB gr t0 := RWl.mv hlr (fun i9 hi9 c9 h1 h2 => me259.2.1 c9 i9 h1 h2 (by (first | exact om_997eaf2cf217 gd kdp rd rd2 hz258 hi9 | omega))) (fun j9 hj9 => ((up2_o hV254 (by decide)).trans (up2_o hV257 (by decide)))) (by rw [((up2_o hV254 (by decide)).trans (up2_o hV257 (by decide)))]; exact Int.le_refl _) ((up2_o hV254 (by decide)).trans (up2_o hV257 (by decide)))
          have pq261 : (V254 5 6).toInt = z258.toInt := congrArg Int32.toInt (up2_s hV254)
          have pq262 : (V254 5 7).toInt = ((V 85 gf)).toInt := congrArg Int32.toInt ((up2_k hV254 (by decide)).trans (up2_s hV257))
          have pq263 : (V254 5 9).toInt = ((V 5 9)).toInt := congrArg Int32.toInt ((up2_k hV254 (by decide)).trans (up2_k hV257 (by decide)))
          have pq264 : (V254 5 11).toInt = ((V 5 11)).toInt := congrArg Int32.toInt ((up2_k hV254 (by decide)).trans (up2_k hV257 (by decide)))
          have pq265 : (V254 5 12).toInt = ((V 5 12)).toInt := congrArg Int32.toInt ((up2_k hV254 (by decide)).trans (up2_k hV257 (by decide)))
          have tp9 : (V254 5 7).toInt = ((t0 : Nat) : Int) := by rw [((up2_k hV254 (by decide)).trans (up2_s hV257))]; exact hb8
          have rz9 : RW V254 gB (gm, ga, gr) := RW.id rwq (ESw.ag (show agr [(5, 6), (5, 7)] [] V V254 from (agr.up (agr.up agr.rf hV257 rfl) hV254 rfl)) (by decide)) ((up2_k hV254 (by decide)).trans (up2_k hV257 (by decide))) ((up2_k hV254 (by decide)).trans (up2_k hV257 (by decide))) ((up2_k hV254 (by decide)).trans (up2_k hV257 (by decide))) ((up2_k hV254 (by decide)).trans (up2_k hV257 (by decide))) (show (V254 5 6).toInt = ((gr.length : Nat) : Int) from by (first | exact om_7b55b3cd7065 kdp rd rd2 hz258 pq261 | omega)) tp9 rl260
          have rx266 : RW V254 gB (stM gB (gm, ga, gfr :: gr)) := by rw [hfe, st_15n (by rw [← rh1]; (first | exact om_7e782b1958aa rh1 f245 af248 pq263 | omega))]; exact rz9
          refine W.know (fun kr1 kr2 => ?_)
          refine W.widen (k := zcc Z) (n := zss Z) (Nat.sub_le _ _) (Nat.sub_le _ _) ?_
          exact W.vret hx hb hr (fun t ht hW => ⟨⟨(V254, L, Z), rfl, ⟨hMV254, agV254, rfl, zoZ, t252, ⟨1, Nat.le_refl _, rx266⟩⟩, ⟨by rw [ht]; exact hP, va_K.moved hW.alike hK, hD⟩, by rw [ht]; exact kr1, by rw [ht]; exact kr2⟩, hS.F ht⟩) hS.2.2 dX5_goOnWorking_35
    · skip
      have f267 : ((V 68 gf)).toInt = 6 := b_eq rfl (by decide) c170
      exfalso; (first | exact om_4b948b729b68 k68 f267 | omega)
  · skip
    have hf : FRc V gB gf (Fsum lv o c sc at9 nd tg it v g u p) := by rw [← hfe]; exact hf0
    have tl8 : tw9 = t0 + (Fsum lv o c sc at9 nd tg it v g u p : Fr).2.2.2.length := by rw [← hfe]; exact tl9
    obtain ⟨⟨k67, k68⟩, hoc, ⟨a0, q84⟩, q75, q77, q76, q74, q78, q79⟩ := hf
    have tl7 : tw9 = t0 + p.length := tl8
    have hb8 : (V 85 gf).toInt = (t0 : Int) := hbs9 (by rw [hfe]; exact (by decide : (12 : Nat) ≤ 16)) (by rw [hfe]; exact (by decide : (16 : Nat) ≤ 16))
    refine lv_aload_n hx hb dX5_goOnWorking_0 rfl (lv_at hl 1 rfl) ?_
    refine va_getN (D := D) (ci := 4) (v := .int (V 68 gf)) (fs := (xfFrame V gf)) (C := RX4) (T := TX4) (N := 19) hx hb hg inX4 hown hK hP (336 + gf) (xgFrame hgf) rfl 1 (by decide) (hnw.use 1190 n1190 rfl) (fun _ h9 => h9) rfl dX5_goOnWorking_1 ?_
    refine lv_bipush (v := 6) hx hb dX5_goOnWorking_4 (by decide) ?_
    refine lv_icmp_ne (tgt := 15) hx hb dX5_goOnWorking_6 (by decide) (fun c268 => ?_) (fun c268 => ?_)
    · skip
      have f269 : ((V 68 gf)).toInt ≠ 6 := b_neq rfl (by decide) c268
      refine lv_aload_n hx hb dX5_goOnWorking_15 rfl (lv_at hl 1 rfl) ?_
      refine va_getN (D := D) (ci := 4) (v := .int (V 68 gf)) (fs := (xfFrame V gf)) (C := RX4) (T := TX4) (N := 19) hx hb hg inX4 hown hK hP (336 + gf) (xgFrame hgf) rfl 1 (by decide) (hnw.use 1190 n1190 rfl) (fun _ h9 => h9) rfl dX5_goOnWorking_16 ?_
      refine lv_if_eq (tgt := 45) hx hb dX5_goOnWorking_19 (by decide) (fun c270 => ?_) (fun c270 => ?_)
      · skip
        have f271 : ((V 68 gf)).toInt = 0 := b_eq rfl (by decide) c270
        exfalso; (first | exact om_32d002c9850f k68 f271 | omega)
      · skip
        have f272 : ((V 68 gf)).toInt ≠ 0 := b_neq rfl (by decide) c270
        refine lv_aload_n hx hb dX5_goOnWorking_22 rfl (lv_at hl 0 rfl) ?_
        refine va_get (D := D) (ci := 5) (v := .int (V 5 9)) (fs := (xfMachine ad V L Z)) (C := RX5) (T := TX5) (N := 15) hx hb hg inX5 hown hK hP 5 xgMachine rfl 9 (by decide) (hg _ w676) (fun _ h9 => h9) rfl dX5_goOnWorking_23 ?_
        refine lv_iconst (v := 1) hx hb dX5_goOnWorking_26 (by decide) ?_
        refine lv_icmp_eq (tgt := 36) hx hb dX5_goOnWorking_27 (by decide) (fun c273 => ?_) (fun c273 => ?_)
        · skip
          have f274 : ((V 5 9)).toInt = 1 := b_eq rfl (by decide) c273
          have mot : MO V Z b gf True (¬ NN V b) True := MO.w mo (fun _ => trivial) (fun z => ⟨by (first | exact om_653e4e2dce96 rh1 f274 | omega), z⟩) (fun _ => Or.inl (by (first | exact om_85c82c20915f gk | omega)))
          refine lv_aload_n hx hb dX5_goOnWorking_36 rfl (lv_at hl 0 rfl) ?_
          refine lv_aload_n hx hb dX5_goOnWorking_37 rfl (lv_at hl 1 rfl) ?_
          refine W.know (fun k276 k277 => ?_)
          obtain ⟨Hk275, hHk275⟩ : ∃ z, z = H := ⟨_, rfl⟩
          have k276 : Hk275.size ≤ s.heap.size + (zcc Z - zcc Z) := by rw [hHk275]; exact k276
          have k277 : tot Hk275 ≤ tot s.heap + (zss Z - zss Z) := by rw [hHk275]; exact k277
          refine gZ_int (gA_runV (As := [.ref (Z.fa gf)]) (rest := []) (ci := 5) (q0 := 5) hx hb hml hown hg hP hD hK hS hA hnw hgk (x_takesAnswer9 l D ks H.size ad kk V L Z (b) (gf) (gB) (gm) (ga) (gfr) (gr) hMV (show b < 2 from by (first | exact om_289974d36c9f hb2 mup | omega)) (show gf < Z.nf from by (first | exact om_725d0642dd96 hgf gd kdp rd rd2 | omega)) mot (show (gf : Int) + 1 = (V 5 6).toInt from by (first | exact om_d5747674bc98 gd | omega)) (show (V 67 gf).toInt = 4 from by (first | exact om_c88e7ce0b8a2 gk | omega)) (show (V 68 gf).toInt ≠ 0 ∧ (V 68 gf).toInt ≠ 6 from by (first | exact om_807ee5880c1f k68 | omega)) rwq bc sf go9 (show (V 5 9).toInt = 1 from by (first | exact om_653e4e2dce96 rh1 f274 | omega))) w1462 w1464 w71 w171 w1465 rfl xgMachine hdV_yX5_takesAnswer ⟨Nat.le_of_ble_eq_true rfl, Nat.le_of_ble_eq_true rfl⟩ rfl hl.1 rfl (Nat.le_of_ble_eq_true rfl) dX5_goOnWorking_38 ⟨z1 zoZ.1, z1 zoZ.2.1⟩) hD hS hA (fun z278 u279 H locs w280 hP hD hK hS y281 y282 => ?_)
          obtain ⟨V283, L284, Z285⟩ := u279
          obtain ⟨hMV283, ajV283, axL284, zlZ285, rgz278, t287, t288, t289, t290, t291⟩ := w280
          have axL284 : L = L284 := Eq.symm axL284
          subst axL284
          replace hP : va_P D vwCl (xw ad kk V283 L Z285) H := hP
          replace hD : va_D A (xw ad kk V283 L Z285) := hD
          replace hK : va_K D vwCl (xty kk Z285) s := hK
          replace hMV283 : rgd bX V283 := hMV283
          replace ajV283 : agr [(3, 15), (5, 6), (5, 7), (5, 9)] [30, 31, 32, 39, 67, 68, 69, 70, 71, 72, 73, 74, 75, 76, 77, 78, 79, 80, 81, 82, 83, 84, 85] V V283 := ajV283
          have agV283 : agr [(3, 15), (5, 6), (5, 7), (5, 9), (5, 10), (5, 11), (5, 12), (5, 13), (5, 14)] [30, 31, 32, 39, 67, 68, 69, 70, 71, 72, 73, 74, 75, 76, 77, 78, 79, 80, 81, 82, 83, 84, 85] V V283 := agV.tr ajV283 (by decide) (by decide)
          replace zlZ285 : ZL Z Z285 := zlZ285
          have zoZ285 : ZL Z Z285 := ZL.tr zoZ zlZ285
          have ziZ285 := zlZ285.1
          have zjZ285 := zlZ285.2.1
          have zkZ285 := zlZ285.2.2.1
          have zmZ285 := zoZ285.1
          have znZ285 := zoZ285.2.1
          have zpZ_Z285 := zoZ.1
          have zqZ_Z285 := zoZ.2.1
          have y281 : H.size ≤ Hk275.size + (zcc Z - zcc Z285) := by rw [hHk275]; exact y281
          have y282 : tot H ≤ tot Hk275 + (zss Z - zss Z285) := by rw [hHk275]; exact y282
          refine W.tight (k := zcc Z - zcc Z285) (n := zss Z - zss Z285) (by first | exact tg9 y281 k276 zlZ285.1 zoZ.1 | omega) (by first | exact tg9 y282 k277 zlZ285.2.1 zoZ.2.1 | omega) ?_
          have hl : lv_has ls 2 [(0, .ref (ad 5)), (1, .ref (Z285.fa gf))] := by rw [zlZ285.2.2.2.2 gf hgf]; exact hl
          replace rgz278 : 0 ≤ z278.toInt ∧ z278.toInt ≤ 1 := rgz278
          replace t287 : Imp (z278.toInt = 1) (MO V283 Z285 b gf True True True) := t287
          replace t288 : Imp (z278.toInt = 0) (MJ V283 Z285 b) := t288
          replace t289 : Imp (z278.toInt = 1) ((V283 5 6).toInt = (V 5 6).toInt ∧ (V283 67 gf).toInt = 4) := t289
          replace t290 : Imp (z278.toInt = 1) (Z285 = Z) := t290
          replace t291 : (z278.toInt = 1 ∧ ∃ fz8, stM gB (gm, ga, gfr :: gr) = (gm, ga, fz8 :: gr) ∧ RW (up2 V283 68 gf 0) gB (gm, ga, fz8 :: gr)) ∨ (z278.toInt = 0 ∧ RW V283 gB (stM gB (gm, ga, gfr :: gr))) := t291
          have r292 : 0 ≤ ((V283 5 6)).toInt ∧ ((V283 5 6)).toInt ≤ 400 := hMV283 5 6
          refine lv_if_ne (tgt := 45) hx hb dX5_goOnWorking_41 (by decide) (fun c293 => ?_) (fun c293 => ?_)
          · skip
            have f294 : z278.toInt ≠ 0 := b_neq rfl (by decide) c293
            have hr1 : z278.toInt = 1 := by (first | exact om_c7d7c2afe6e6 rgz278 f294 | omega)
            have ezz : Z285 = Z := Imp.go t290 hr1
            have hP : va_P D vwCl (xw ad kk V283 L Z) H := by rw [← ezz]; exact hP
            have hD : va_D A (xw ad kk V283 L Z) := by rw [← ezz]; exact hD
            have hK : va_K D vwCl (xty kk Z) s := by rw [← ezz]; exact hK
            have hl : lv_has ls 2 [(0, .ref (ad 5)), (1, .ref (Z.fa gf))] := by rw [← ezz]; exact hl
            rw [ezz]
            have mo295 : MO V283 Z b gf True True True := by rw [← ezz]; exact Imp.go t287 hr1
            have hpk := Imp.go t289 hr1
            have mup := MO.up mo295
            have msz := mup.1
            have mbk := mup.2.2.2.1
            obtain ⟨xk, fk⟩ := MO.fk mo295
            have r296 : (-1) ≤ ((V283 71 gf)).toInt ∧ ((V283 71 gf)).toInt ≤ 23 := hMV283 71 gf
            have r297 : 0 ≤ ((V283 75 gf)).toInt ∧ ((V283 75 gf)).toInt ≤ 12 := hMV283 75 gf
            have r298 : 0 ≤ ((V283 80 gf)).toInt ∧ ((V283 80 gf)).toInt ≤ 300 := hMV283 80 gf
            have r299 : 0 ≤ ((V283 84 gf)).toInt ∧ ((V283 84 gf)).toInt ≤ 2147483647 := hMV283 84 gf
            have pq300 : (V283 5 8).toInt = ((V 5 8)).toInt := congrArg Int32.toInt (ajV283 5 8 rfl)
            have r301 : 0 ≤ ((V283 5 9)).toInt ∧ ((V283 5 9)).toInt ≤ 3 := hMV283 5 9
            have pq302 : (V283 3 13).toInt = ((V 3 13)).toInt := congrArg Int32.toInt (ajV283 3 13 rfl)
            have pq303 : (V283 43 (5 * b + 2)).toInt = ((V 43 (5 * b + 2))).toInt := congrArg Int32.toInt (ajV283 43 (5 * b + 2) rfl)
            have pq304 : (V283 41 b).toInt = ((V 41 b)).toInt := congrArg Int32.toInt (ajV283 41 b rfl)
            have pq305 : (V283 42 b).toInt = ((V 42 b)).toInt := congrArg Int32.toInt (ajV283 42 b rfl)
            have fc := fk.1 (by (first | exact om_44d4c4f9f7ef hpk | omega))
            have fo := fk.2.1 (by (first | exact om_44d4c4f9f7ef hpk | omega)) (by (first | exact om_2ced1a512586 hpk | omega))
            have ft := fk.2.2.1 (by (first | exact om_860d07f16e45 hpk | omega))
            have fq := fk.2.2.2.1 (by (first | exact om_860d07f16e45 hpk | omega))
            refine lv_aload_n hx hb dX5_goOnWorking_45 rfl (lv_at hl 1 rfl) ?_
            refine lv_iconst (v := 0) hx hb dX5_goOnWorking_46 (by decide) ?_
            refine va_putN (D := D) (ci := 4) (v := .int 0) (ty := tyX4 1) (fs := (xfFrame V283 gf)) (C := RX4) (T := TX4) (N := 19) hx hb hg inX4 tyX4 tyX4_ok nmX4 hown hK hP hD hS (336 + gf) (xgFrame hgf) rfl 1 (by decide) (hnw.use 1190 n1190 rfl) (fun _ h9 => h9) rfl (tyX4_ok 1 (by decide)) rfl rfl (Nat.le_of_ble_eq_true rfl) dX5_goOnWorking_47 (fun H locs hP hD hS => ?_)
            obtain ⟨V306, hV306⟩ : ∃ z, z = up2 V283 68 gf 0 := ⟨_, rfl⟩
            have ew307 : (xw ad kk V283 L Z).set (336 + gf) ((Z.fa gf), .inr (4, (xfFrame V283 gf).set 1 (.int 0))) = xw ad kk V306 L Z := by rw [hV306]; exact xpFrame_phase hgf
            have hP : va_P D vwCl (xw ad kk V306 L Z) H := by rw [← ew307]; exact hP
            have hD : va_D A (xw ad kk V306 L Z) := by rw [← ew307]; exact hD
            have hMV306 : rgd bX V306 := hMV283.put hV306 (i_full _)
            have agV306 : agr [(3, 15), (5, 6), (5, 7), (5, 9), (5, 10), (5, 11), (5, 12), (5, 13), (5, 14)] [30, 31, 32, 39, 67, 68, 69, 70, 71, 72, 73, 74, 75, 76, 77, 78, 79, 80, 81, 82, 83, 84, 85] V V306 := agV283.up hV306 rfl
            obtain ⟨f2, sx9, ru9⟩ := (t291.resolve_right (fun h9 => by have h8 := h9.1; (first | exact om_0cbcd509a04c hr1 h9 | omega))).2
            have rwx9 : RW V306 gB (gm, ga, f2 :: gr) := by rw [hV306]; exact ru9
            have gox9 : GOs gB (gm, ga, f2 :: gr) := by rw [← sx9]; exact GOs.nx go9
            refine lv_aload_n hx hb dX5_goOnWorking_50 rfl (lv_at hl 0 rfl) ?_
            refine lv_aload_n hx hb dX5_goOnWorking_51 rfl (lv_at hl 1 rfl) ?_
            have pq308 : (V306 5 6).toInt = ((V283 5 6)).toInt := congrArg Int32.toInt (up2_o hV306 (by decide))
            have pq309 : (V306 67 gf).toInt = ((V283 67 gf)).toInt := congrArg Int32.toInt (up2_o hV306 (by decide))
            have pq310 : (V306 68 gf).toInt = 0 := (congrArg Int32.toInt (up2_s hV306)).trans (by decide)
            have me311 : ME V283 V306 gf := (ME.up ME.rf hV306 (Or.inl ⟨by decide, by decide, Nat.le_refl _⟩))
            have pq312 : (V306 70 gf).toInt = ((V283 70 gf)).toInt := congrArg Int32.toInt (up2_o hV306 (by decide))
            have pq313 : (V306 71 gf).toInt = ((V283 71 gf)).toInt := congrArg Int32.toInt (up2_o hV306 (by decide))
            have pq314 : (V306 75 gf).toInt = ((V283 75 gf)).toInt := congrArg Int32.toInt (up2_o hV306 (by decide))
            have pq315 : (V306 76 gf).toInt = ((V283 76 gf)).toInt := congrArg Int32.toInt (up2_o hV306 (by decide))
            have pq316 : (V306 80 gf).toInt = ((V283 80 gf)).toInt := congrArg Int32.toInt (up2_o hV306 (by decide))
            have pq317 : (V306 84 gf).toInt = ((V283 84 gf)).toInt := congrArg Int32.toInt (up2_o hV306 (by decide))
            have pq318 : (V306 5 8).toInt = ((V 5 8)).toInt := congrArg Int32.toInt ((up2_o hV306 (by decide)).trans (ajV283 5 8 rfl))
            have pq319 : (V306 5 9).toInt = ((V283 5 9)).toInt := congrArg Int32.toInt (up2_o hV306 (by decide))
            have pq320 : (V306 3 13).toInt = ((V 3 13)).toInt := congrArg Int32.toInt ((up2_o hV306 (by decide)).trans (ajV283 3 13 rfl))
            have pq321 : (V306 43 (5 * b + 2)).toInt = ((V 43 (5 * b + 2))).toInt := congrArg Int32.toInt ((up2_o hV306 (by decide)).trans (ajV283 43 (5 * b + 2) rfl))
            have pq322 : (V306 42 b).toInt = ((V 42 b)).toInt := congrArg Int32.toInt ((up2_o hV306 (by decide)).trans (ajV283 42 b rfl))
            have pq323 : (V306 41 b).toInt = ((V 41 b)).toInt := congrArg Int32.toInt ((up2_o hV306 (by decide)).trans (ajV283 41 b rfl))
            have ep326 : V306 84 gf = (V283 84 gf) := (up2_o hV306 (by decide))
            have af325 : (V306 42 b).toInt ≤ (V306 84 gf).toInt ∨ (bdp V306 b (V306 84 gf).toInt.toNat).1 = true := by rw [ep326, me311.1.bd, me311.1 42 b (by decide) (by decide)]; exact ft
            have mo324 : MO V306 Z b gf True True True := MO.ch mo295 me311 (up2_o hV306 (by decide)) (up2_o hV306 (by decide)) (fun _ => Or.inl (by (first | exact om_44d4c4f9f7ef hpk | omega))) (fun x h => FK.k4 (by first | exact om_aa3d8c2f563d hpk pq309 | first | omega | ((try (have i_t289 := Imp.go t289 (by omega))); omega)) (by first | exact om_55df0db36d78 r296 pq303 fc pq313 pq321 | first | omega | ((try (have i_t289 := Imp.go t289 (by omega))); omega)) (by first | exact om_a90b064d0ba2 ra2 pq302 fo pq312 pq320 | first | omega | ((try (have i_t289 := Imp.go t289 (by omega))); omega)) af325 (by first | exact om_21b02c2ae35f pq310 | first | omega | ((try (have i_t289 := Imp.go t289 (by omega))); omega)) (fun hph => absurd hph (by (first | exact om_99bd92af3810 pq310 hph | omega))))
            have bc327 : BKc V306 b gB := BKc.b4 bc (agr.b4 (show agr [(3, 15), (5, 6), (5, 7), (5, 9)] [30, 31, 32, 39, 67, 68, 69, 70, 71, 72, 73, 74, 75, 76, 77, 78, 79, 80, 81, 82, 83, 84, 85] V V306 from (agr.up (agr.tr agr.rf ajV283 (by decide) (by decide)) hV306 rfl)) (by decide))
            refine W.know (fun k329 k330 => ?_)
            obtain ⟨Hk328, hHk328⟩ : ∃ z, z = H := ⟨_, rfl⟩
            have k329 : Hk328.size ≤ s.heap.size + (zcc Z - zcc Z) := by rw [hHk328]; exact k329
            have k330 : tot Hk328 ≤ tot s.heap + (zss Z - zss Z) := by rw [hHk328]; exact k330
            refine gZ_void (gA_runV (As := [.ref (Z.fa gf)]) (rest := []) (ci := 5) (q0 := 5) hx hb hml hown hg hP hD hK hS hA hnw hgk (x_work9 l D ks H.size ad kk V306 L Z (b) (gf) (gB) (gm) (ga) (f2) (gr) hMV306 (show b < 2 from by first | exact om_289974d36c9f hb2 mup | first | omega | ((try (have i_t289 := Imp.go t289 (by omega))); omega)) (show gf < Z.nf from by first | exact om_39a2747553fe hgf gd kdp rd rd2 hpk pq308 | first | omega | ((try (have i_t289 := Imp.go t289 (by omega))); omega)) mo324 (show (gf : Int) + 1 = (V306 5 6).toInt from by first | exact om_774be6a865fd gd kdp rd rd2 hpk pq308 | first | omega | ((try (have i_t289 := Imp.go t289 (by omega))); omega)) (show (V306 67 gf).toInt = 4 from by first | exact om_aa3d8c2f563d hpk pq309 | first | omega | ((try (have i_t289 := Imp.go t289 (by omega))); omega)) (show (V306 68 gf).toInt = 0 from by first | exact om_b66ba74381d5 pq310 | first | omega | ((try (have i_t289 := Imp.go t289 (by omega))); omega)) rwx9 bc327 gox9) w1474 w1476 w74 w171 w1477 rfl xgMachine hdV_yX5_work ⟨Nat.le_of_ble_eq_true rfl, Nat.le_of_ble_eq_true rfl⟩ rfl hl.1 rfl (Nat.le_of_ble_eq_true rfl) dX5_goOnWorking_52 ⟨z1 zoZ.1, z1 zoZ.2.1⟩) hD hS hA (fun u332 H locs w333 hP hD hK hS y334 y335 => ?_)
            obtain ⟨V336, L337, Z338⟩ := u332
            obtain ⟨hMV336, ajV336, axL337, zlZ338, t340, t341⟩ := w333
            have axL337 : L = L337 := Eq.symm axL337
            subst axL337
            replace hP : va_P D vwCl (xw ad kk V336 L Z338) H := hP
            replace hD : va_D A (xw ad kk V336 L Z338) := hD
            replace hK : va_K D vwCl (xty kk Z338) s := hK
            replace hMV336 : rgd bX V336 := hMV336
            replace ajV336 : agr [(5, 6), (5, 7), (5, 9), (5, 10), (5, 11), (5, 12), (5, 13), (5, 14)] [39, 67, 68, 69, 70, 71, 72, 73, 74, 75, 76, 77, 78, 79, 80, 81, 82, 83, 84, 85] V306 V336 := ajV336
            have agV336 : agr [(3, 15), (5, 6), (5, 7), (5, 9), (5, 10), (5, 11), (5, 12), (5, 13), (5, 14)] [30, 31, 32, 39, 67, 68, 69, 70, 71, 72, 73, 74, 75, 76, 77, 78, 79, 80, 81, 82, 83, 84, 85] V V336 := agV306.tr ajV336 (by decide) (by decide)
            replace zlZ338 : ZL Z Z338 := zlZ338
            have zoZ338 : ZL Z Z338 := ZL.tr zoZ zlZ338
            have ziZ338 := zlZ338.1
            have zjZ338 := zlZ338.2.1
            have zkZ338 := zlZ338.2.2.1
            have zmZ338 := zoZ338.1
            have znZ338 := zoZ338.2.1
            have zpZ_Z338 := zoZ.1
            have zqZ_Z338 := zoZ.2.1
            have y334 : H.size ≤ Hk328.size + (zcc Z - zcc Z338) := by rw [hHk328]; exact y334
            have y335 : tot H ≤ tot Hk328 + (zss Z - zss Z338) := by rw [hHk328]; exact y335
            refine W.tight (k := zcc Z - zcc Z338) (n := zss Z - zss Z338) (by first | exact tg9 y334 k329 zlZ338.1 zoZ.1 | omega) (by first | exact tg9 y335 k330 zlZ338.2.1 zoZ.2.1 | omega) ?_
            have hl : lv_has ls 2 [(0, .ref (ad 5)), (1, .ref (Z338.fa gf))] := by rw [zlZ338.2.2.2.2 gf hgf]; exact hl
            replace t340 : MJ V336 Z338 b := t340
            replace t341 : ∃ n, 1 ≤ n ∧ RW V336 gB (rnM gB n (gm, ga, f2 :: gr)) := t341
            refine W.know (fun kr1 kr2 => ?_)
            refine W.widen (k := zcc Z) (n := zss Z) (Nat.sub_le _ _) (Nat.sub_le _ _) ?_
            exact W.vret hx hb hr (fun t ht hW => ⟨⟨(V336, L, Z338), rfl, ⟨hMV336, agV336, rfl, zoZ338, t340, (by obtain ⟨n9, h1, h2⟩ := t341; exact ⟨1 + n9, by omega, by rw [rnM_add]; show RW _ gB (rnM gB n9 (stM gB (gm, ga, gfr :: gr))); rw [sx9]; exact h2⟩)⟩, ⟨by rw [ht]; exact hP, va_K.moved hW.alike hK, hD⟩, by rw [ht]; exact kr1, by rw [ht]; exact kr2⟩, hS.F ht⟩) hS.2.2 dX5_goOnWorking_55
          · skip
            have f342 : z278.toInt = 0 := b_eq rfl (by decide) c293
            refine W.know (fun kr1 kr2 => ?_)
            refine W.widen (k := zcc Z) (n := zss Z) (Nat.sub_le _ _) (Nat.sub_le _ _) ?_
            exact W.vret hx hb hr (fun t ht hW => ⟨⟨(V283, L, Z285), rfl, ⟨hMV283, agV283, rfl, zoZ285, (Imp.go t288 (by (first | exact om_b66ba74381d5 f342 | omega))), ⟨1, Nat.le_refl _, (t291.resolve_left (fun h9 => by have h8 := h9.1; (first | exact om_65da98921d09 f342 h9 | omega))).2⟩⟩, ⟨by rw [ht]; exact hP, va_K.moved hW.alike hK, hD⟩, by rw [ht]; exact kr1, by rw [ht]; exact kr2⟩, hS.F ht⟩) hS.2.2 dX5_goOnWorking_44
        · skip
          have f343 : ((V 5 9)).toInt ≠ 1 := b_neq rfl (by decide) c273
          refine lv_aload_n hx hb dX5_goOnWorking_30 rfl (lv_at hl 0 rfl) ?_
          refine lv_aload_n hx hb dX5_goOnWorking_31 rfl (lv_at hl 1 rfl) ?_
          have me344 : ME V V gf := ME.rf
          have af346 : (V 42 b).toInt ≤ (V 84 gf).toInt ∨ (bdp V b (V 84 gf).toInt.toNat).1 = true := by rw [me344.1.bd, me344.1 42 b (by decide) (by decide)]; exact ft
          have mo345 : MO V Z b gf True False True := MO.ch mo me344 rfl rfl (fun _ => Or.inl (by (first | exact om_85c82c20915f gk | omega))) (fun x h => FK.k4 (by (first | exact om_c88e7ce0b8a2 gk | omega)) (by (first | exact om_6076713cabb8 r2 fc | omega)) (by (first | exact om_033210b74f87 fo ra2 | omega)) af346 (by (first | exact om_a098d7eb5fa7 k68 | omega)) (fun _ z => z.elim))
          refine gA_void (gA_runV (As := [.ref (Z.fa gf)]) (rest := []) (ci := 5) (q0 := 5) hx hb hml hown hg hP hD hK hS hA hnw hgk (x_endWork9 l D ks H.size ad kk V L Z (b) (gf) hMV (show b < 2 from by (first | exact om_289974d36c9f hb2 mup | omega)) (show gf < Z.nf from by (first | exact om_725d0642dd96 hgf gd kdp rd rd2 | omega)) mo345 (show (gf : Int) + 1 = (V 5 6).toInt from by (first | exact om_d5747674bc98 gd | omega)) (show (V 67 gf).toInt = 4 from by (first | exact om_c88e7ce0b8a2 gk | omega))) w1458 w1460 w70 w171 w1461 rfl xgMachine hdV_yX5_endWork ⟨Nat.le_of_ble_eq_true rfl, Nat.le_of_ble_eq_true rfl⟩ rfl hl.1 rfl (Nat.le_of_ble_eq_true rfl) dX5_goOnWorking_32 ⟨z0, z0⟩) hP hD hK hS hA (fun u348 H locs w349 hP hD hK hS => ?_)
          obtain ⟨V352, L353⟩ := u348
          obtain ⟨hMV352, ajV352, axL353, t350, t351⟩ := w349
          have axL353 : L = L353 := Eq.symm axL353
          subst axL353
          replace hP : va_P D vwCl (xw ad kk V352 L Z) H := hP
          replace hD : va_D A (xw ad kk V352 L Z) := hD
          replace hMV352 : rgd bX V352 := hMV352
          replace ajV352 : agr [(5, 6), (5, 7)] [] V V352 := ajV352
          have agV352 : agr [(3, 15), (5, 6), (5, 7), (5, 9), (5, 10), (5, 11), (5, 12), (5, 13), (5, 14)] [30, 31, 32, 39, 67, 68, 69, 70, 71, 72, 73, 74, 75, 76, 77, 78, 79, 80, 81, 82, 83, 84, 85] V V352 := agV.tr ajV352 (by decide) (by decide)
          replace t350 : MJ V352 Z b := t350
          replace t351 : ((True) ∧ V352 = (up2 (up2 V 5 7 (V 85 gf)) 5 6 (V 5 6 - 1))) := t351
          have hw354 := t351.2
          obtain ⟨V355, hV355⟩ : ∃ z, z = up2 V 5 7 (V 85 gf) := ⟨_, rfl⟩
          obtain ⟨z356, ez356⟩ : ∃ y : Int32, y = V 5 6 - 1 := ⟨_, rfl⟩
          have hz356 : z356.toInt = (V 5 6).toInt - 1 := i_sub ez356 rfl (by decide) (by (first | exact om_62296f3213ed gd r1 kdp rd rd2 sl9 | omega))
          have hV352 : V352 = up2 V355 5 6 z356 := by rw [hw354, hV355, ez356]
          have me357 : ME V V352 gf := (ME.up (ME.up ME.rf hV355 (Or.inr (by (first | exact om_8193a90fcd76  | omega)))) hV352 (Or.inr (by (first | exact om_f481bd0f1cda  | omega))))
          have rl358 : RWl V352 gB gr t0 := RWl.mv hlr (fun i9 hi9 c9 h1 h2 => me357.2.1 c9 i9 h1 h2 (by (first | exact om_997eaf2cf217 gd kdp rd rd2 hz356 hi9 | omega))) (fun j9 hj9 => ((up2_o hV352 (by decide)).trans (up2_o hV355 (by decide)))) (by rw [((up2_o hV352 (by decide)).trans (up2_o hV355 (by decide)))]; exact Int.le_refl _) ((up2_o hV352 (by decide)).trans (up2_o hV355 (by decide)))
          have pq359 : (V352 5 6).toInt = z356.toInt := congrArg Int32.toInt (up2_s hV352)
          have pq360 : (V352 5 7).toInt = ((V 85 gf)).toInt := congrArg Int32.toInt ((up2_k hV352 (by decide)).trans (up2_s hV355))
          have pq361 : (V352 5 9).toInt = ((V 5 9)).toInt := congrArg Int32.toInt ((up2_k hV352 (by decide)).trans (up2_k hV355 (by decide)))
          have pq362 : (V352 5 11).toInt = ((V 5 11)).toInt := congrArg Int32.toInt ((up2_k hV352 (by decide)).trans (up2_k hV355 (by decide)))
          have pq363 : (V352 5 12).toInt = ((V 5 12)).toInt := congrArg Int32.toInt ((up2_k hV352 (by decide)).trans (up2_k hV355 (by decide)))
          have tp9 : (V352 5 7).toInt = ((t0 : Nat) : Int) := by rw [((up2_k hV352 (by decide)).trans (up2_s hV355))]; exact hb8
          have rz9 : RW V352 gB (gm, ga, gr) := RW.id rwq (ESw.ag (show agr [(5, 6), (5, 7)] [] V V352 from (agr.up (agr.up agr.rf hV355 rfl) hV352 rfl)) (by decide)) ((up2_k hV352 (by decide)).trans (up2_k hV355 (by decide))) ((up2_k hV352 (by decide)).trans (up2_k hV355 (by decide))) ((up2_k hV352 (by decide)).trans (up2_k hV355 (by decide))) ((up2_k hV352 (by decide)).trans (up2_k hV355 (by decide))) (show (V352 5 6).toInt = ((gr.length : Nat) : Int) from by (first | exact om_7b55b3cd7065 kdp rd rd2 hz356 pq359 | omega)) tp9 rl358
          have rx364 : RW V352 gB (stM gB (gm, ga, gfr :: gr)) := by rw [hfe, st_16n (by rw [← rh1]; (first | exact om_7e782b1958aa rh1 f343 af346 pq361 | omega))]; exact rz9
          refine W.know (fun kr1 kr2 => ?_)
          refine W.widen (k := zcc Z) (n := zss Z) (Nat.sub_le _ _) (Nat.sub_le _ _) ?_
          exact W.vret hx hb hr (fun t ht hW => ⟨⟨(V352, L, Z), rfl, ⟨hMV352, agV352, rfl, zoZ, t350, ⟨1, Nat.le_refl _, rx364⟩⟩, ⟨by rw [ht]; exact hP, va_K.moved hW.alike hK, hD⟩, by rw [ht]; exact kr1, by rw [ht]; exact kr2⟩, hS.F ht⟩) hS.2.2 dX5_goOnWorking_35
    · skip
      have f365 : ((V 68 gf)).toInt = 6 := b_eq rfl (by decide) c268
      exfalso; (first | exact om_f8dafe61ed49 k68 f365 | omega)
end
section
/-! once nothing is under way, nothing comes -/
theorem rn_ne {B : Bk} {x : MS} {n : Nat} (h : (rnM B n x).2.2 ≠ []) {j : Nat} (hj : j ≤ n) : (rnM B j x).2.2 ≠ [] := fun e => h (by
  rw [show n = j + (n - j) from by omega, rnM_add]
  generalize rnM B j x = y at e ⊢
  obtain ⟨m, a, fs⟩ := y
  have e : fs = [] := e
  rw [e, rnM_nil])
/-- a run that goes well, or none -/
def GOx (B : Bk) (x : MS) : Prop := x.2.2 = [] ∨ GOs B x
theorem GOx.at {B : Bk} {x : MS} {n : Nat} (h : GOx B x) (q : (rnM B n x).2.2 ≠ []) : GOs B (rnM B n x) := by
  rcases h with h | h
  · exact absurd h (rn_ne (j := 0) q (Nat.zero_le _))
  · exact GOs.rn n h (fun j hj => rn_ne q (by omega))


abbrev r_x_run9 (Z : XZ) : Room := { frames := 7, cells := zcc Z, slots := zss Z, locals := 159 }
abbrev q_x_run9 (D : va_G) (ks : KS) (ad : Nat → Nat) (kk : Nat → ClassId) (V : Vf) (L : Lf) (Z : XZ) (b : Nat) (gB : Bk) (gx : MS) (A : Nat → Prop) : Array Value → State → Outcome → State → Prop := qZv D (fun (u : Vf × Lf × XZ) => rgd bX u.1 ∧ agr [(3, 13), (3, 14), (3, 15), (4, 5), (4, 6), (5, 6), (5, 7), (5, 8), (5, 9), (5, 10), (5, 11), (5, 12), (5, 13), (5, 14)] [24, 25, 26, 27, 28, 29, 30, 31, 32, 33, 34, 35, 36, 37, 39, 40, 67, 68, 69, 70, 71, 72, 73, 74, 75, 76, 77, 78, 79, 80, 81, 82, 83, 84, 85] V u.1 ∧ u.2.1 = L ∧ ZL Z u.2.2 ∧ (MJ u.1 u.2.2 b) ∧ (∃ n, (rnM gB n gx).2.2 = [] ∧ RW u.1 gB (rnM gB n gx))) (fun u => xw ad kk u.1 u.2.1 u.2.2) (fun u => xty kk u.2.2) (fun u => zcc Z - zcc u.2.2) (fun u => zss Z - zss u.2.2) A
set_option maxHeartbeats 4000000 in
set_option maxRecDepth 100000 in
theorem x_run9 (l : Launch) (D : va_G) (ks : KS) (sz : Nat) (ad : Nat → Nat) (kk : Nat → ClassId) (V : Vf) (L : Lf) (Z : XZ) (b : Nat) (gB : Bk) (gx : MS) (hMV : rgd bX V) (hb2 : b < 2) (mj : MJ V Z b) (rwq : RW V gB gx) (bc : BKc V b gB) (gox : GOx gB gx) (phi : ∃ n, n ≤ 999999 ∧ PHI gB gx n) (wfb : WFB gB)  : Met l yX5_run (Cond.code yX5_run cX5_run 3 none :: GW) (r_x_run9 Z) (va_Pc [.ref (ad 5)] (gp D ks (xw ad kk V L Z) (xty kk Z) sz)) (q_x_run9 D ks ad kk V L Z  b gB gx (va_A (xw ad kk V L Z) sz)) (zcc Z) (zss Z) (va_A (xw ad kk V L Z) sz) := by
  refine g_met (q_x_run9 D ks ad kk V L Z  b gB gx) (by decide) (Nat.le_of_ble_eq_true rfl) ?_
  intro p e s m below meth c A ls H locs hx hb hr hml hown hg hlocks hin hnw hgk hP hK hD hS hA hl
  replace hown : s.vm.findClass RX5 = some m.cls := hown
  replace hl : lv_has ls 3 [(0, .ref (ad 5))] := hl
  replace hP : va_P D vwCl (xw ad kk V L Z) H := hP
  replace hD : va_D A (xw ad kk V L Z) := hD
  replace hK : va_K D vwCl (xty kk Z) s := hK
  have agV : agr [(3, 13), (3, 14), (3, 15), (4, 5), (4, 6), (5, 6), (5, 7), (5, 8), (5, 9), (5, 10), (5, 11), (5, 12), (5, 13), (5, 14)] [24, 25, 26, 27, 28, 29, 30, 31, 32, 33, 34, 35, 36, 37, 39, 40, 67, 68, 69, 70, 71, 72, 73, 74, 75, 76, 77, 78, 79, 80, 81, 82, 83, 84, 85] V V := agr.rf
  have zoZ : ZL Z Z := ZL.rf
  refine W.know (fun ka kb => ?_)
  refine W.tight (k := zcc Z - zcc Z) (n := zss Z - zss Z) (by omega) (by omega) ?_
  refine lv_iconst (v := 0) hx hb dX5_run_0 (by decide) ?_
  refine lv_istore_n (lv' := [(1, .int 0), (0, .ref (ad 5))]) hx hb dX5_run_1 rfl hl (by decide) rfl (fun ls hl => ?_)
  have lp4 : ∀ (fulp4 : Nat) (y1 : Int32) (V2 : Vf) (Z3 : XZ) (H : Heap) (locs : List Loc) (ls : Array Slot), 0 ≤ y1.toInt ∧ y1.toInt ≤ 1000000 → MJ V2 Z3 b → (∃ n, y1.toInt ≤ ((n : Nat) : Int) ∧ RW V2 gB (rnM gB n gx)) → 1000000 - y1.toInt < (fulp4 : Int) → agr [(3, 13), (3, 14), (3, 15), (4, 5), (4, 6), (5, 6), (5, 7), (5, 8), (5, 9), (5, 10), (5, 11), (5, 12), (5, 13), (5, 14)] [24, 25, 26, 27, 28, 29, 30, 31, 32, 33, 34, 35, 36, 37, 39, 40, 67, 68, 69, 70, 71, 72, 73, 74, 75, 76, 77, 78, 79, 80, 81, 82, 83, 84, 85] V V2 → rgd bX V2 → ZL Z Z3 → va_K D vwCl (xty kk Z3) s → va_P D vwCl (xw ad kk V2 L Z3) H → va_D A (xw ad kk V2 L Z3) → va_S A s.heap H locs → lv_has ls 3 [(1, .int y1), (0, .ref (ad 5))] → W p l e (r_x_run9 Z) s m ([.ref (ad 5)] : List Value).toArray below meth c H locs (zcc Z - zcc Z3) (zss Z - zss Z3) (MQ below (q_x_run9 D ks ad kk V L Z  b gB gx A) ([.ref (ad 5)] : List Value).toArray s (zcc Z) (zss Z) A) (F0 m 2 ls []) := by
    intro fulp4
    induction fulp4 with
    | zero =>
      intro y1 V2 Z3 H locs ls klp4_0 xlp4_0 xlp4_1 hn ajV2 hMV2 zoZ3 hK hP hD hS hl
      exfalso; (first | exact om_13e3f9559dcb klp4_0.2 hn | omega)
    | succ fulp4 ihlp4 =>
      intro y1 V2 Z3 H locs ls klp4_0 xlp4_0 xlp4_1 hn ajV2 hMV2 zoZ3 hK hP hD hS hl
      have agV2 : agr [(3, 13), (3, 14), (3, 15), (4, 5), (4, 6), (5, 6), (5, 7), (5, 8), (5, 9), (5, 10), (5, 11), (5, 12), (5, 13), (5, 14)] [24, 25, 26, 27, 28, 29, 30, 31, 32, 33, 34, 35, 36, 37, 39, 40, 67, 68, 69, 70, 71, 72, 73, 74, 75, 76, 77, 78, 79, 80, 81, 82, 83, 84, 85] V V2 := agV.tr ajV2 (by decide) (by decide)
      have zmZ3 := zoZ3.1
      have znZ3 := zoZ3.2.1
      refine lv_iload_n hx hb dX5_run_2 rfl (lv_at hl 0 rfl) ?_
      refine lv_ldc (v := 1000000) hx hb hown (hg _ w1251) dX5_run_3 ?_
      refine lv_icmp_ge (tgt := 115) hx hb dX5_run_5 (by decide) (fun c5 => ?_) (fun c5 => ?_)
      · skip
        have f6 : 1000000 ≤ y1.toInt := b_le (by decide) rfl c5
        obtain ⟨n9, nt9, rw9⟩ := xlp4_1
        have ed9 : (rnM gB n9 gx).2.2 = [] := by
          rcases Decidable.em ((rnM gB n9 gx).2.2.length = 0) with h9 | h9
          · exact List.length_eq_zero_iff.mp h9
          · exfalso
            have h8 : (V2 5 6).toInt = (((rnM gB n9 gx).2.2.length : Nat) : Int) := rw9.2.2.1
            obtain ⟨N9, hN1, hN2⟩ := phi
            have h7 := PHI.lim wfb N9 (n9 + 1) gx hN2 (fun j9 hj9 => rn_ne (n := n9) (fun h6 => h9 (by rw [h6]; rfl)) (by omega))
            omega
        refine W.know (fun kr1 kr2 => ?_)
        refine W.widen (k := zcc Z) (n := zss Z) (Nat.sub_le _ _) (Nat.sub_le _ _) ?_
        exact W.vret hx hb hr (fun t ht hW => ⟨⟨(V2, L, Z3), rfl, ⟨hMV2, agV2, rfl, zoZ3, xlp4_0, ⟨n9, ed9, rw9⟩⟩, ⟨by rw [ht]; exact hP, va_K.moved hW.alike hK, hD⟩, by rw [ht]; exact kr1, by rw [ht]; exact kr2⟩, hS.F ht⟩) hS.2.2 dX5_run_115
      · skip
        have f7 : y1.toInt < 1000000 := b_nle (by decide) rfl c5
        refine lv_aload_n hx hb dX5_run_8 rfl (lv_at hl 1 rfl) ?_
        refine va_get (D := D) (ci := 5) (v := .int (V2 5 6)) (fs := (xfMachine ad V2 L Z3)) (C := RX5) (T := TX5) (N := 15) hx hb hg inX5 hown hK hP 5 xgMachine rfl 6 (by decide) (hg _ w673) (fun _ h9 => h9) rfl dX5_run_9 ?_
        have r8 : 0 ≤ ((V2 5 6)).toInt ∧ ((V2 5 6)).toInt ≤ 400 := hMV2 5 6
        refine lv_if_le (tgt := 115) hx hb dX5_run_12 (by decide) (fun c9 => ?_) (fun c9 => ?_)
        · skip
          have f10 : ((V2 5 6)).toInt ≤ 0 := b_le rfl (by decide) c9
          obtain ⟨n9, nt9, rw9⟩ := xlp4_1
          have ed9 : (rnM gB n9 gx).2.2 = [] := by
            rcases Decidable.em ((rnM gB n9 gx).2.2.length = 0) with h9 | h9
            · exact List.length_eq_zero_iff.mp h9
            · exfalso
              have h8 : (V2 5 6).toInt = (((rnM gB n9 gx).2.2.length : Nat) : Int) := rw9.2.2.1
              obtain ⟨N9, hN1, hN2⟩ := phi
              have h7 := PHI.lim wfb N9 (n9 + 1) gx hN2 (fun j9 hj9 => rn_ne (n := n9) (fun h6 => h9 (by rw [h6]; rfl)) (by omega))
              omega
          refine W.know (fun kr1 kr2 => ?_)
          refine W.widen (k := zcc Z) (n := zss Z) (Nat.sub_le _ _) (Nat.sub_le _ _) ?_
          exact W.vret hx hb hr (fun t ht hW => ⟨⟨(V2, L, Z3), rfl, ⟨hMV2, agV2, rfl, zoZ3, xlp4_0, ⟨n9, ed9, rw9⟩⟩, ⟨by rw [ht]; exact hP, va_K.moved hW.alike hK, hD⟩, by rw [ht]; exact kr1, by rw [ht]; exact kr2⟩, hS.F ht⟩) hS.2.2 dX5_run_115
        · skip
          have f11 : 0 < ((V2 5 6)).toInt := b_nle rfl (by decide) c9
          have hdn := MJ.dn xlp4_0 (by (first | exact om_610a4af05d44 f11 | omega))
          obtain ⟨n9, nt9, rw9⟩ := xlp4_1
          obtain ⟨m2, a2, fs2, er9⟩ : ∃ m2 a2 fs2, rnM gB n9 gx = (m2, a2, fs2) := ⟨_, _, _, rfl⟩
          rw [er9] at rw9
          obtain ⟨f2, r2, hf2⟩ : ∃ f2 r2, fs2 = f2 :: r2 := by
            cases fs2 with
            | nil => exfalso; have h9 : (V2 5 6).toInt = ((0 : Nat) : Int) := rw9.2.2.1; omega
            | cons a b => exact ⟨a, b, rfl⟩
          rw [hf2] at er9 rw9
          have ne9 : (rnM gB n9 gx).2.2 ≠ [] := by rw [er9]; exact fun h9 => by cases h9
          have go9 : GOs gB (m2, a2, f2 :: r2) := by rw [← er9]; exact GOx.at gox ne9
          have sf := GOs.sf go9
          refine lv_aload_n hx hb dX5_run_15 rfl (lv_at hl 1 rfl) ?_
          refine va_get (D := D) (ci := 5) (v := .ref (ad 35)) (fs := (xfMachine ad V2 L Z3)) (C := RX5) (T := TX5) (N := 15) hx hb hg inX5 hown hK hP 5 xgMachine rfl 2 (by decide) (hg _ w669) (fun _ h9 => h9) rfl dX5_run_16 ?_
          refine lv_aload_n hx hb dX5_run_19 rfl (lv_at hl 1 rfl) ?_
          refine va_get (D := D) (ci := 5) (v := .int (V2 5 6)) (fs := (xfMachine ad V2 L Z3)) (C := RX5) (T := TX5) (N := 15) hx hb hg inX5 hown hK hP 5 xgMachine rfl 6 (by decide) (hg _ w673) (fun _ h9 => h9) rfl dX5_run_20 ?_
          refine lv_iconst (v := 1) hx hb dX5_run_23 (by decide) ?_
          refine lv_isub hx hb dX5_run_24 ?_
          refine lv_topi (fun z12 ez12 => ?_)
          have hz12 : z12.toInt = ((V2 5 6)).toInt - 1 := i_sub ez12 rfl (by decide) (by (first | exact om_3d6fa717bec1 r8.2 f11 | omega))
          refine va_aldq (D := D) (i := z12) hx hb hK hP 35 28 rfl rfl (i_in (a := z12.toInt) rfl (by (first | exact om_138cba0bf25b r8.2 f11 hz12 | omega))) dX5_run_25 ?_
          have kc13 := i_clamp (x := z12) rfl (by (first | exact om_9271d0948665 f11 hz12 | omega))
          refine g_topv (v := .ref (Z3.fa (Int32.toNatClampNeg z12))) (by exact congrArg va_rf (if_pos (by omega))) ?_
          have il14 : (Int32.toNatClampNeg z12) < Z3.nf := by (first | exact om_ea4c74f9597c hdn.1 hz12 kc13 | omega)
          refine lv_astore_n (lv' := [(2, .ref (Z3.fa (Int32.toNatClampNeg z12))), (1, .int y1), (0, .ref (ad 5))]) hx hb dX5_run_26 rfl hl (by decide) rfl (fun ls hl => ?_)
          refine lv_aload_n hx hb dX5_run_27 rfl (lv_at hl 0 rfl) ?_
          refine va_getN (D := D) (ci := 4) (v := .int (V2 67 (Int32.toNatClampNeg z12))) (fs := (xfFrame V2 (Int32.toNatClampNeg z12))) (C := RX4) (T := TX4) (N := 19) hx hb hg inX4 hown hK hP (336 + (Int32.toNatClampNeg z12)) (xgFrame il14) rfl 0 (by decide) (hnw.use 1189 n1189 rfl) (fun _ h9 => h9) rfl dX5_run_28 ?_
          by_cases q15 : (V2 67 (Int32.toNatClampNeg z12)) = 0
          · refine g_top (v := 0) q15 ?_
            have fq15 : ((V2 67 (Int32.toNatClampNeg z12))).toInt = 0 := b_eq rfl (by decide) q15
            refine lv_tableIn (x := 0) (off := 33) (tgt := 64) hx hb dX5_run_31 (by decide) (by decide) (by decide) (by decide) ?_
            refine lv_aload_n hx hb dX5_run_64 rfl (lv_at hl 2 rfl) ?_
            refine lv_aload_n hx hb dX5_run_65 rfl (lv_at hl 0 rfl) ?_
            have bc16 : BKc V2 b gB := BKc.b4 bc (agr.b4 (show agr [(3, 13), (3, 14), (3, 15), (4, 5), (4, 6), (5, 6), (5, 7), (5, 8), (5, 9), (5, 10), (5, 11), (5, 12), (5, 13), (5, 14)] [24, 25, 26, 27, 28, 29, 30, 31, 32, 33, 34, 35, 36, 37, 39, 40, 67, 68, 69, 70, 71, 72, 73, 74, 75, 76, 77, 78, 79, 80, 81, 82, 83, 84, 85] V V2 from (agr.tr agr.rf ajV2 (by decide) (by decide))) (by decide))
            refine W.know (fun k18 k19 => ?_)
            obtain ⟨Hk17, hHk17⟩ : ∃ z, z = H := ⟨_, rfl⟩
            have k18 : Hk17.size ≤ s.heap.size + (zcc Z - zcc Z3) := by rw [hHk17]; exact k18
            have k19 : tot Hk17 ≤ tot s.heap + (zss Z - zss Z3) := by rw [hHk17]; exact k19
            refine gZ_void (gA_runV (As := [.ref (Z3.fa (Int32.toNatClampNeg z12))]) (rest := []) (ci := 5) (q0 := 5) hx hb hml hown hg hP hD hK hS hA hnw hgk (x_goOnGetting9 l D ks H.size ad kk V2 L Z3 (b) ((Int32.toNatClampNeg z12)) (gB) (m2) (a2) (f2) (r2) hMV2 (show b < 2 from by (first | exact om_f940a4667dd6 hb2 | omega)) (show (Int32.toNatClampNeg z12) < Z3.nf from by (first | exact om_8c5722e49bb1 il14 | omega)) (MJ.op (d := (Int32.toNatClampNeg z12)) xlp4_0 (by omega)) (show ((Int32.toNatClampNeg z12) : Int) + 1 = (V2 5 6).toInt from by (first | exact om_c968828d0a40 hz12 kc13 | omega)) (show (V2 67 (Int32.toNatClampNeg z12)).toInt = 0 from by (first | exact om_b66ba74381d5 fq15 | omega)) rw9 bc16 sf) w1252 w1254 w44 w171 w1255 rfl xgMachine hdV_yX5_goOnGetting ⟨Nat.le_of_ble_eq_true rfl, Nat.le_of_ble_eq_true rfl⟩ rfl hl.1 rfl (Nat.le_of_ble_eq_true rfl) dX5_run_66 ⟨z1 zoZ3.1, z1 zoZ3.2.1⟩) hD hS hA (fun u21 H locs w22 hP hD hK hS y23 y24 => ?_)
            obtain ⟨V25, L26, Z27⟩ := u21
            obtain ⟨hMV25, ajV25, axL26, zlZ27, t29, t30⟩ := w22
            have axL26 : L = L26 := Eq.symm axL26
            subst axL26
            replace hP : va_P D vwCl (xw ad kk V25 L Z27) H := hP
            replace hD : va_D A (xw ad kk V25 L Z27) := hD
            replace hK : va_K D vwCl (xty kk Z27) s := hK
            replace hMV25 : rgd bX V25 := hMV25
            replace ajV25 : agr [(3, 13), (5, 6), (5, 8), (5, 9), (5, 10), (5, 11), (5, 12), (5, 13), (5, 14)] [25, 26, 27, 28, 30, 67, 68, 69, 70, 71, 72, 73, 74, 75, 76, 77, 78, 79, 80, 81, 82, 83, 84, 85] V2 V25 := ajV25
            have agV25 : agr [(3, 13), (3, 14), (3, 15), (4, 5), (4, 6), (5, 6), (5, 7), (5, 8), (5, 9), (5, 10), (5, 11), (5, 12), (5, 13), (5, 14)] [24, 25, 26, 27, 28, 29, 30, 31, 32, 33, 34, 35, 36, 37, 39, 40, 67, 68, 69, 70, 71, 72, 73, 74, 75, 76, 77, 78, 79, 80, 81, 82, 83, 84, 85] V V25 := agV2.tr ajV25 (by decide) (by decide)
            replace zlZ27 : ZL Z3 Z27 := zlZ27
            have zoZ27 : ZL Z Z27 := ZL.tr zoZ3 zlZ27
            have ziZ27 := zlZ27.1
            have zjZ27 := zlZ27.2.1
            have zkZ27 := zlZ27.2.2.1
            have zmZ27 := zoZ27.1
            have znZ27 := zoZ27.2.1
            have zpZ3_Z27 := zoZ3.1
            have zqZ3_Z27 := zoZ3.2.1
            have y23 : H.size ≤ Hk17.size + (zcc Z3 - zcc Z27) := by rw [hHk17]; exact y23
            have y24 : tot H ≤ tot Hk17 + (zss Z3 - zss Z27) := by rw [hHk17]; exact y24
            refine W.tight (k := zcc Z - zcc Z27) (n := zss Z - zss Z27) (by first | exact tg9 y23 k18 zlZ27.1 zoZ3.1 | omega) (by first | exact tg9 y24 k19 zlZ27.2.1 zoZ3.2.1 | omega) ?_
            have hl : lv_has ls 3 [(2, .ref (Z27.fa (Int32.toNatClampNeg z12))), (1, .int y1), (0, .ref (ad 5))] := by rw [zlZ27.2.2.2.2 (Int32.toNatClampNeg z12) il14]; exact hl
            replace t29 : MJ V25 Z27 b := t29
            replace t30 : RW V25 gB (stM gB (m2, a2, f2 :: r2)) := t30
            refine lv_goto (tgt := 109) hx hb dX5_run_69 (by decide) ?_
            obtain ⟨z31, ez31⟩ : ∃ y : Int32, y = y1 + 1 := ⟨_, rfl⟩
            have hz31 : z31.toInt = y1.toInt + 1 := i_add ez31 rfl (by decide) (by (first | exact om_7cfca28772a4 klp4_0.1 f7 | omega))
            refine lv_iinc (v := z31) (lv' := [(1, .int z31), (2, .ref (Z27.fa (Int32.toNatClampNeg z12))), (0, .ref (ad 5))]) hx hb dX5_run_109 hl (k := 1) rfl (by rw [ez31]; rfl) (by decide) rfl (fun ls hl => ?_)
            refine lv_goto (tgt := 2) hx hb dX5_run_112 (by decide) ?_
            exact ihlp4 z31 V25 Z27 H locs ls (by (first | exact om_6036b630f734 klp4_0.1 f7 hz31 | omega)) t29 ⟨n9 + 1, by omega, (by rw [rnM_add, er9]; exact t30)⟩ (by (first | exact om_4c597ccc4a45 hn hz31 | omega)) (agr.tr (agr.tr agr.rf ajV2 (by decide) (by decide)) ajV25 (by decide) (by decide)) hMV25 zoZ27 hK hP hD hS (lv_sub hl [0, 2] rfl)
          have gq15 : ((V2 67 (Int32.toNatClampNeg z12))).toInt ≠ 0 := b_neq rfl (by decide) q15
          by_cases q32 : (V2 67 (Int32.toNatClampNeg z12)) = 1
          · refine g_top (v := 1) q32 ?_
            have fq32 : ((V2 67 (Int32.toNatClampNeg z12))).toInt = 1 := b_eq rfl (by decide) q32
            refine lv_tableIn (x := 1) (off := 41) (tgt := 72) hx hb dX5_run_31 (by decide) (by decide) (by decide) (by decide) ?_
            refine lv_aload_n hx hb dX5_run_72 rfl (lv_at hl 2 rfl) ?_
            refine lv_aload_n hx hb dX5_run_73 rfl (lv_at hl 0 rfl) ?_
            have bc33 : BKc V2 b gB := BKc.b4 bc (agr.b4 (show agr [(3, 13), (3, 14), (3, 15), (4, 5), (4, 6), (5, 6), (5, 7), (5, 8), (5, 9), (5, 10), (5, 11), (5, 12), (5, 13), (5, 14)] [24, 25, 26, 27, 28, 29, 30, 31, 32, 33, 34, 35, 36, 37, 39, 40, 67, 68, 69, 70, 71, 72, 73, 74, 75, 76, 77, 78, 79, 80, 81, 82, 83, 84, 85] V V2 from (agr.tr agr.rf ajV2 (by decide) (by decide))) (by decide))
            refine W.know (fun k35 k36 => ?_)
            obtain ⟨Hk34, hHk34⟩ : ∃ z, z = H := ⟨_, rfl⟩
            have k35 : Hk34.size ≤ s.heap.size + (zcc Z - zcc Z3) := by rw [hHk34]; exact k35
            have k36 : tot Hk34 ≤ tot s.heap + (zss Z - zss Z3) := by rw [hHk34]; exact k36
            refine gZ_void (gA_runV (As := [.ref (Z3.fa (Int32.toNatClampNeg z12))]) (rest := []) (ci := 5) (q0 := 5) hx hb hml hown hg hP hD hK hS hA hnw hgk (x_goOnMaking9 l D ks H.size ad kk V2 L Z3 (b) ((Int32.toNatClampNeg z12)) (gB) (m2) (a2) (f2) (r2) hMV2 (show b < 2 from by (first | exact om_f940a4667dd6 hb2 | omega)) (show (Int32.toNatClampNeg z12) < Z3.nf from by (first | exact om_8c5722e49bb1 il14 | omega)) (MJ.op (d := (Int32.toNatClampNeg z12)) xlp4_0 (by omega)) (show ((Int32.toNatClampNeg z12) : Int) + 1 = (V2 5 6).toInt from by (first | exact om_c968828d0a40 hz12 kc13 | omega)) (show (V2 67 (Int32.toNatClampNeg z12)).toInt = 1 from by (first | exact om_710535a98d88 fq32 | omega)) rw9 bc33 sf) w1328 w1330 w53 w171 w1331 rfl xgMachine hdV_yX5_goOnMaking ⟨Nat.le_of_ble_eq_true rfl, Nat.le_of_ble_eq_true rfl⟩ rfl hl.1 rfl (Nat.le_of_ble_eq_true rfl) dX5_run_74 ⟨z1 zoZ3.1, z1 zoZ3.2.1⟩) hD hS hA (fun u38 H locs w39 hP hD hK hS y40 y41 => ?_)
            obtain ⟨V42, L43, Z44⟩ := u38
            obtain ⟨hMV42, ajV42, axL43, zlZ44, t46, t47⟩ := w39
            have axL43 : L = L43 := Eq.symm axL43
            subst axL43
            replace hP : va_P D vwCl (xw ad kk V42 L Z44) H := hP
            replace hD : va_D A (xw ad kk V42 L Z44) := hD
            replace hK : va_K D vwCl (xty kk Z44) s := hK
            replace hMV42 : rgd bX V42 := hMV42
            replace ajV42 : agr [(3, 13), (3, 14), (3, 15), (5, 6), (5, 8), (5, 9), (5, 10), (5, 11), (5, 12), (5, 13), (5, 14)] [24, 25, 26, 27, 28, 29, 30, 31, 32, 40, 67, 68, 69, 70, 71, 72, 73, 74, 75, 76, 77, 78, 79, 80, 81, 82, 83, 84, 85] V2 V42 := ajV42
            have agV42 : agr [(3, 13), (3, 14), (3, 15), (4, 5), (4, 6), (5, 6), (5, 7), (5, 8), (5, 9), (5, 10), (5, 11), (5, 12), (5, 13), (5, 14)] [24, 25, 26, 27, 28, 29, 30, 31, 32, 33, 34, 35, 36, 37, 39, 40, 67, 68, 69, 70, 71, 72, 73, 74, 75, 76, 77, 78, 79, 80, 81, 82, 83, 84, 85] V V42 := agV2.tr ajV42 (by decide) (by decide)
            replace zlZ44 : ZL Z3 Z44 := zlZ44
            have zoZ44 : ZL Z Z44 := ZL.tr zoZ3 zlZ44
            have ziZ44 := zlZ44.1
            have zjZ44 := zlZ44.2.1
            have zkZ44 := zlZ44.2.2.1
            have zmZ44 := zoZ44.1
            have znZ44 := zoZ44.2.1
            have zpZ3_Z44 := zoZ3.1
            have zqZ3_Z44 := zoZ3.2.1
            have y40 : H.size ≤ Hk34.size + (zcc Z3 - zcc Z44) := by rw [hHk34]; exact y40
            have y41 : tot H ≤ tot Hk34 + (zss Z3 - zss Z44) := by rw [hHk34]; exact y41
            refine W.tight (k := zcc Z - zcc Z44) (n := zss Z - zss Z44) (by first | exact tg9 y40 k35 zlZ44.1 zoZ3.1 | omega) (by first | exact tg9 y41 k36 zlZ44.2.1 zoZ3.2.1 | omega) ?_
            have hl : lv_has ls 3 [(2, .ref (Z44.fa (Int32.toNatClampNeg z12))), (1, .int y1), (0, .ref (ad 5))] := by rw [zlZ44.2.2.2.2 (Int32.toNatClampNeg z12) il14]; exact hl
            replace t46 : MJ V42 Z44 b := t46
            replace t47 : RW V42 gB (stM gB (m2, a2, f2 :: r2)) := t47
            refine lv_goto (tgt := 109) hx hb dX5_run_77 (by decide) ?_
            obtain ⟨z48, ez48⟩ : ∃ y : Int32, y = y1 + 1 := ⟨_, rfl⟩
            have hz48 : z48.toInt = y1.toInt + 1 := i_add ez48 rfl (by decide) (by (first | exact om_7cfca28772a4 klp4_0.1 f7 | omega))
            refine lv_iinc (v := z48) (lv' := [(1, .int z48), (2, .ref (Z44.fa (Int32.toNatClampNeg z12))), (0, .ref (ad 5))]) hx hb dX5_run_109 hl (k := 1) rfl (by rw [ez48]; rfl) (by decide) rfl (fun ls hl => ?_)
            refine lv_goto (tgt := 2) hx hb dX5_run_112 (by decide) ?_
            exact ihlp4 z48 V42 Z44 H locs ls (by (first | exact om_6036b630f734 klp4_0.1 f7 hz48 | omega)) t46 ⟨n9 + 1, by omega, (by rw [rnM_add, er9]; exact t47)⟩ (by (first | exact om_4c597ccc4a45 hn hz48 | omega)) (agr.tr (agr.tr agr.rf ajV2 (by decide) (by decide)) ajV42 (by decide) (by decide)) hMV42 zoZ44 hK hP hD hS (lv_sub hl [0, 2] rfl)
          have gq32 : ((V2 67 (Int32.toNatClampNeg z12))).toInt ≠ 1 := b_neq rfl (by decide) q32
          by_cases q49 : (V2 67 (Int32.toNatClampNeg z12)) = 2
          · refine g_top (v := 2) q49 ?_
            have fq49 : ((V2 67 (Int32.toNatClampNeg z12))).toInt = 2 := b_eq rfl (by decide) q49
            refine lv_tableIn (x := 2) (off := 49) (tgt := 80) hx hb dX5_run_31 (by decide) (by decide) (by decide) (by decide) ?_
            refine lv_aload_n hx hb dX5_run_80 rfl (lv_at hl 2 rfl) ?_
            refine lv_aload_n hx hb dX5_run_81 rfl (lv_at hl 0 rfl) ?_
            have bc50 : BKc V2 b gB := BKc.b4 bc (agr.b4 (show agr [(3, 13), (3, 14), (3, 15), (4, 5), (4, 6), (5, 6), (5, 7), (5, 8), (5, 9), (5, 10), (5, 11), (5, 12), (5, 13), (5, 14)] [24, 25, 26, 27, 28, 29, 30, 31, 32, 33, 34, 35, 36, 37, 39, 40, 67, 68, 69, 70, 71, 72, 73, 74, 75, 76, 77, 78, 79, 80, 81, 82, 83, 84, 85] V V2 from (agr.tr agr.rf ajV2 (by decide) (by decide))) (by decide))
            refine W.know (fun k52 k53 => ?_)
            obtain ⟨Hk51, hHk51⟩ : ∃ z, z = H := ⟨_, rfl⟩
            have k52 : Hk51.size ≤ s.heap.size + (zcc Z - zcc Z3) := by rw [hHk51]; exact k52
            have k53 : tot Hk51 ≤ tot s.heap + (zss Z - zss Z3) := by rw [hHk51]; exact k53
            refine gZ_void (gA_runV (As := [.ref (Z3.fa (Int32.toNatClampNeg z12))]) (rest := []) (ci := 5) (q0 := 5) hx hb hml hown hg hP hD hK hS hA hnw hgk (x_goOnCalling9 l D ks H.size ad kk V2 L Z3 (b) ((Int32.toNatClampNeg z12)) (gB) (m2) (a2) (f2) (r2) hMV2 (show b < 2 from by (first | exact om_f940a4667dd6 hb2 | omega)) (show (Int32.toNatClampNeg z12) < Z3.nf from by (first | exact om_8c5722e49bb1 il14 | omega)) (MJ.op (d := (Int32.toNatClampNeg z12)) xlp4_0 (by omega)) (show ((Int32.toNatClampNeg z12) : Int) + 1 = (V2 5 6).toInt from by (first | exact om_c968828d0a40 hz12 kc13 | omega)) (show (V2 67 (Int32.toNatClampNeg z12)).toInt = 2 from by (first | exact om_6aa5e6f8c558 fq49 | omega)) rw9 bc50 sf) w1380 w1382 w58 w171 w1383 rfl xgMachine hdV_yX5_goOnCalling ⟨Nat.le_of_ble_eq_true rfl, Nat.le_of_ble_eq_true rfl⟩ rfl hl.1 rfl (Nat.le_of_ble_eq_true rfl) dX5_run_82 ⟨z1 zoZ3.1, z1 zoZ3.2.1⟩) hD hS hA (fun u55 H locs w56 hP hD hK hS y57 y58 => ?_)
            obtain ⟨V59, L60, Z61⟩ := u55
            obtain ⟨hMV59, ajV59, axL60, zlZ61, t63, t64⟩ := w56
            have axL60 : L = L60 := Eq.symm axL60
            subst axL60
            replace hP : va_P D vwCl (xw ad kk V59 L Z61) H := hP
            replace hD : va_D A (xw ad kk V59 L Z61) := hD
            replace hK : va_K D vwCl (xty kk Z61) s := hK
            replace hMV59 : rgd bX V59 := hMV59
            replace ajV59 : agr [(4, 5), (5, 6), (5, 9), (5, 11), (5, 12), (5, 13), (5, 14)] [33, 34, 35, 67, 68, 69, 70, 71, 72, 73, 74, 75, 76, 77, 78, 79, 80, 81, 82, 83, 84, 85] V2 V59 := ajV59
            have agV59 : agr [(3, 13), (3, 14), (3, 15), (4, 5), (4, 6), (5, 6), (5, 7), (5, 8), (5, 9), (5, 10), (5, 11), (5, 12), (5, 13), (5, 14)] [24, 25, 26, 27, 28, 29, 30, 31, 32, 33, 34, 35, 36, 37, 39, 40, 67, 68, 69, 70, 71, 72, 73, 74, 75, 76, 77, 78, 79, 80, 81, 82, 83, 84, 85] V V59 := agV2.tr ajV59 (by decide) (by decide)
            replace zlZ61 : ZL Z3 Z61 := zlZ61
            have zoZ61 : ZL Z Z61 := ZL.tr zoZ3 zlZ61
            have ziZ61 := zlZ61.1
            have zjZ61 := zlZ61.2.1
            have zkZ61 := zlZ61.2.2.1
            have zmZ61 := zoZ61.1
            have znZ61 := zoZ61.2.1
            have zpZ3_Z61 := zoZ3.1
            have zqZ3_Z61 := zoZ3.2.1
            have y57 : H.size ≤ Hk51.size + (zcc Z3 - zcc Z61) := by rw [hHk51]; exact y57
            have y58 : tot H ≤ tot Hk51 + (zss Z3 - zss Z61) := by rw [hHk51]; exact y58
            refine W.tight (k := zcc Z - zcc Z61) (n := zss Z - zss Z61) (by first | exact tg9 y57 k52 zlZ61.1 zoZ3.1 | omega) (by first | exact tg9 y58 k53 zlZ61.2.1 zoZ3.2.1 | omega) ?_
            have hl : lv_has ls 3 [(2, .ref (Z61.fa (Int32.toNatClampNeg z12))), (1, .int y1), (0, .ref (ad 5))] := by rw [zlZ61.2.2.2.2 (Int32.toNatClampNeg z12) il14]; exact hl
            replace t63 : MJ V59 Z61 b := t63
            replace t64 : RW V59 gB (stM gB (m2, a2, f2 :: r2)) := t64
            refine lv_goto (tgt := 109) hx hb dX5_run_85 (by decide) ?_
            obtain ⟨z65, ez65⟩ : ∃ y : Int32, y = y1 + 1 := ⟨_, rfl⟩
            have hz65 : z65.toInt = y1.toInt + 1 := i_add ez65 rfl (by decide) (by (first | exact om_7cfca28772a4 klp4_0.1 f7 | omega))
            refine lv_iinc (v := z65) (lv' := [(1, .int z65), (2, .ref (Z61.fa (Int32.toNatClampNeg z12))), (0, .ref (ad 5))]) hx hb dX5_run_109 hl (k := 1) rfl (by rw [ez65]; rfl) (by decide) rfl (fun ls hl => ?_)
            refine lv_goto (tgt := 2) hx hb dX5_run_112 (by decide) ?_
            exact ihlp4 z65 V59 Z61 H locs ls (by (first | exact om_6036b630f734 klp4_0.1 f7 hz65 | omega)) t63 ⟨n9 + 1, by omega, (by rw [rnM_add, er9]; exact t64)⟩ (by (first | exact om_4c597ccc4a45 hn hz65 | omega)) (agr.tr (agr.tr agr.rf ajV2 (by decide) (by decide)) ajV59 (by decide) (by decide)) hMV59 zoZ61 hK hP hD hS (lv_sub hl [0, 2] rfl)
          have gq49 : ((V2 67 (Int32.toNatClampNeg z12))).toInt ≠ 2 := b_neq rfl (by decide) q49
          by_cases q66 : (V2 67 (Int32.toNatClampNeg z12)) = 3
          · refine g_top (v := 3) q66 ?_
            have fq66 : ((V2 67 (Int32.toNatClampNeg z12))).toInt = 3 := b_eq rfl (by decide) q66
            refine lv_tableIn (x := 3) (off := 57) (tgt := 88) hx hb dX5_run_31 (by decide) (by decide) (by decide) (by decide) ?_
            refine lv_aload_n hx hb dX5_run_88 rfl (lv_at hl 2 rfl) ?_
            refine lv_aload_n hx hb dX5_run_89 rfl (lv_at hl 0 rfl) ?_
            have bc67 : BKc V2 b gB := BKc.b4 bc (agr.b4 (show agr [(3, 13), (3, 14), (3, 15), (4, 5), (4, 6), (5, 6), (5, 7), (5, 8), (5, 9), (5, 10), (5, 11), (5, 12), (5, 13), (5, 14)] [24, 25, 26, 27, 28, 29, 30, 31, 32, 33, 34, 35, 36, 37, 39, 40, 67, 68, 69, 70, 71, 72, 73, 74, 75, 76, 77, 78, 79, 80, 81, 82, 83, 84, 85] V V2 from (agr.tr agr.rf ajV2 (by decide) (by decide))) (by decide))
            refine W.know (fun k69 k70 => ?_)
            obtain ⟨Hk68, hHk68⟩ : ∃ z, z = H := ⟨_, rfl⟩
            have k69 : Hk68.size ≤ s.heap.size + (zcc Z - zcc Z3) := by rw [hHk68]; exact k69
            have k70 : tot Hk68 ≤ tot s.heap + (zss Z - zss Z3) := by rw [hHk68]; exact k70
            refine gZ_void (gA_runV (As := [.ref (Z3.fa (Int32.toNatClampNeg z12))]) (rest := []) (ci := 5) (q0 := 5) hx hb hml hown hg hP hD hK hS hA hnw hgk (x_goOnInside9 l D ks H.size ad kk V2 L Z3 (b) ((Int32.toNatClampNeg z12)) (gB) (m2) (a2) (f2) (r2) hMV2 (show b < 2 from by (first | exact om_f940a4667dd6 hb2 | omega)) (show (Int32.toNatClampNeg z12) < Z3.nf from by (first | exact om_8c5722e49bb1 il14 | omega)) (MJ.op (d := (Int32.toNatClampNeg z12)) xlp4_0 (by omega)) (show ((Int32.toNatClampNeg z12) : Int) + 1 = (V2 5 6).toInt from by (first | exact om_c968828d0a40 hz12 kc13 | omega)) (show (V2 67 (Int32.toNatClampNeg z12)).toInt = 3 from by (first | exact om_395e3da5ee0d fq66 | omega)) rw9 bc67 sf) w1411 w1413 w63 w171 w1414 rfl xgMachine hdV_yX5_goOnInside ⟨Nat.le_of_ble_eq_true rfl, Nat.le_of_ble_eq_true rfl⟩ rfl hl.1 rfl (Nat.le_of_ble_eq_true rfl) dX5_run_90 ⟨z1 zoZ3.1, z1 zoZ3.2.1⟩) hD hS hA (fun u72 H locs w73 hP hD hK hS y74 y75 => ?_)
            obtain ⟨V76, L77, Z78⟩ := u72
            obtain ⟨hMV76, ajV76, axL77, zlZ78, t80, t81⟩ := w73
            have axL77 : L = L77 := Eq.symm axL77
            subst axL77
            replace hP : va_P D vwCl (xw ad kk V76 L Z78) H := hP
            replace hD : va_D A (xw ad kk V76 L Z78) := hD
            replace hK : va_K D vwCl (xty kk Z78) s := hK
            replace hMV76 : rgd bX V76 := hMV76
            replace ajV76 : agr [(4, 5), (5, 6), (5, 9), (5, 10), (5, 11), (5, 12)] [33, 34, 35, 67, 68, 69, 70, 71, 72, 73, 74, 75, 76, 77, 78, 79, 80, 81, 82, 83, 84, 85] V2 V76 := ajV76
            have agV76 : agr [(3, 13), (3, 14), (3, 15), (4, 5), (4, 6), (5, 6), (5, 7), (5, 8), (5, 9), (5, 10), (5, 11), (5, 12), (5, 13), (5, 14)] [24, 25, 26, 27, 28, 29, 30, 31, 32, 33, 34, 35, 36, 37, 39, 40, 67, 68, 69, 70, 71, 72, 73, 74, 75, 76, 77, 78, 79, 80, 81, 82, 83, 84, 85] V V76 := agV2.tr ajV76 (by decide) (by decide)
            replace zlZ78 : ZL Z3 Z78 := zlZ78
            have zoZ78 : ZL Z Z78 := ZL.tr zoZ3 zlZ78
            have ziZ78 := zlZ78.1
            have zjZ78 := zlZ78.2.1
            have zkZ78 := zlZ78.2.2.1
            have zmZ78 := zoZ78.1
            have znZ78 := zoZ78.2.1
            have zpZ3_Z78 := zoZ3.1
            have zqZ3_Z78 := zoZ3.2.1
            have y74 : H.size ≤ Hk68.size + (zcc Z3 - zcc Z78) := by rw [hHk68]; exact y74
            have y75 : tot H ≤ tot Hk68 + (zss Z3 - zss Z78) := by rw [hHk68]; exact y75
            refine W.tight (k := zcc Z - zcc Z78) (n := zss Z - zss Z78) (by first | exact tg9 y74 k69 zlZ78.1 zoZ3.1 | omega) (by first | exact tg9 y75 k70 zlZ78.2.1 zoZ3.2.1 | omega) ?_
            have hl : lv_has ls 3 [(2, .ref (Z78.fa (Int32.toNatClampNeg z12))), (1, .int y1), (0, .ref (ad 5))] := by rw [zlZ78.2.2.2.2 (Int32.toNatClampNeg z12) il14]; exact hl
            replace t80 : MJ V76 Z78 b := t80
            replace t81 : RW V76 gB (stM gB (m2, a2, f2 :: r2)) := t81
            refine lv_goto (tgt := 109) hx hb dX5_run_93 (by decide) ?_
            obtain ⟨z82, ez82⟩ : ∃ y : Int32, y = y1 + 1 := ⟨_, rfl⟩
            have hz82 : z82.toInt = y1.toInt + 1 := i_add ez82 rfl (by decide) (by (first | exact om_7cfca28772a4 klp4_0.1 f7 | omega))
            refine lv_iinc (v := z82) (lv' := [(1, .int z82), (2, .ref (Z78.fa (Int32.toNatClampNeg z12))), (0, .ref (ad 5))]) hx hb dX5_run_109 hl (k := 1) rfl (by rw [ez82]; rfl) (by decide) rfl (fun ls hl => ?_)
            refine lv_goto (tgt := 2) hx hb dX5_run_112 (by decide) ?_
            exact ihlp4 z82 V76 Z78 H locs ls (by (first | exact om_6036b630f734 klp4_0.1 f7 hz82 | omega)) t80 ⟨n9 + 1, by omega, (by rw [rnM_add, er9]; exact t81)⟩ (by (first | exact om_4c597ccc4a45 hn hz82 | omega)) (agr.tr (agr.tr agr.rf ajV2 (by decide) (by decide)) ajV76 (by decide) (by decide)) hMV76 zoZ78 hK hP hD hS (lv_sub hl [0, 2] rfl)
          have gq66 : ((V2 67 (Int32.toNatClampNeg z12))).toInt ≠ 3 := b_neq rfl (by decide) q66
          by_cases q83 : (V2 67 (Int32.toNatClampNeg z12)) = 4
          · refine g_top (v := 4) q83 ?_
            have fq83 : ((V2 67 (Int32.toNatClampNeg z12))).toInt = 4 := b_eq rfl (by decide) q83
            refine lv_tableIn (x := 4) (off := 65) (tgt := 96) hx hb dX5_run_31 (by decide) (by decide) (by decide) (by decide) ?_
            refine lv_aload_n hx hb dX5_run_96 rfl (lv_at hl 2 rfl) ?_
            refine lv_aload_n hx hb dX5_run_97 rfl (lv_at hl 0 rfl) ?_
            have bc84 : BKc V2 b gB := BKc.b4 bc (agr.b4 (show agr [(3, 13), (3, 14), (3, 15), (4, 5), (4, 6), (5, 6), (5, 7), (5, 8), (5, 9), (5, 10), (5, 11), (5, 12), (5, 13), (5, 14)] [24, 25, 26, 27, 28, 29, 30, 31, 32, 33, 34, 35, 36, 37, 39, 40, 67, 68, 69, 70, 71, 72, 73, 74, 75, 76, 77, 78, 79, 80, 81, 82, 83, 84, 85] V V2 from (agr.tr agr.rf ajV2 (by decide) (by decide))) (by decide))
            refine W.know (fun k86 k87 => ?_)
            obtain ⟨Hk85, hHk85⟩ : ∃ z, z = H := ⟨_, rfl⟩
            have k86 : Hk85.size ≤ s.heap.size + (zcc Z - zcc Z3) := by rw [hHk85]; exact k86
            have k87 : tot Hk85 ≤ tot s.heap + (zss Z - zss Z3) := by rw [hHk85]; exact k87
            refine gZ_void (gA_runV (As := [.ref (Z3.fa (Int32.toNatClampNeg z12))]) (rest := []) (ci := 5) (q0 := 5) hx hb hml hown hg hP hD hK hS hA hnw hgk (x_goOnWorking9 l D ks H.size ad kk V2 L Z3 (b) ((Int32.toNatClampNeg z12)) (gB) (m2) (a2) (f2) (r2) hMV2 (show b < 2 from by (first | exact om_f940a4667dd6 hb2 | omega)) (show (Int32.toNatClampNeg z12) < Z3.nf from by (first | exact om_8c5722e49bb1 il14 | omega)) (MJ.op (d := (Int32.toNatClampNeg z12)) xlp4_0 (by omega)) (show ((Int32.toNatClampNeg z12) : Int) + 1 = (V2 5 6).toInt from by (first | exact om_c968828d0a40 hz12 kc13 | omega)) (show (V2 67 (Int32.toNatClampNeg z12)).toInt = 4 from by (first | exact om_c88e7ce0b8a2 fq83 | omega)) rw9 bc84 sf go9) w1431 w1433 w67 w171 w1434 rfl xgMachine hdV_yX5_goOnWorking ⟨Nat.le_of_ble_eq_true rfl, Nat.le_of_ble_eq_true rfl⟩ rfl hl.1 rfl (Nat.le_of_ble_eq_true rfl) dX5_run_98 ⟨z1 zoZ3.1, z1 zoZ3.2.1⟩) hD hS hA (fun u89 H locs w90 hP hD hK hS y91 y92 => ?_)
            obtain ⟨V93, L94, Z95⟩ := u89
            obtain ⟨hMV93, ajV93, axL94, zlZ95, t97, t98⟩ := w90
            have axL94 : L = L94 := Eq.symm axL94
            subst axL94
            replace hP : va_P D vwCl (xw ad kk V93 L Z95) H := hP
            replace hD : va_D A (xw ad kk V93 L Z95) := hD
            replace hK : va_K D vwCl (xty kk Z95) s := hK
            replace hMV93 : rgd bX V93 := hMV93
            replace ajV93 : agr [(3, 15), (5, 6), (5, 7), (5, 9), (5, 10), (5, 11), (5, 12), (5, 13), (5, 14)] [30, 31, 32, 39, 67, 68, 69, 70, 71, 72, 73, 74, 75, 76, 77, 78, 79, 80, 81, 82, 83, 84, 85] V2 V93 := ajV93
            have agV93 : agr [(3, 13), (3, 14), (3, 15), (4, 5), (4, 6), (5, 6), (5, 7), (5, 8), (5, 9), (5, 10), (5, 11), (5, 12), (5, 13), (5, 14)] [24, 25, 26, 27, 28, 29, 30, 31, 32, 33, 34, 35, 36, 37, 39, 40, 67, 68, 69, 70, 71, 72, 73, 74, 75, 76, 77, 78, 79, 80, 81, 82, 83, 84, 85] V V93 := agV2.tr ajV93 (by decide) (by decide)
            replace zlZ95 : ZL Z3 Z95 := zlZ95
            have zoZ95 : ZL Z Z95 := ZL.tr zoZ3 zlZ95
            have ziZ95 := zlZ95.1
            have zjZ95 := zlZ95.2.1
            have zkZ95 := zlZ95.2.2.1
            have zmZ95 := zoZ95.1
            have znZ95 := zoZ95.2.1
            have zpZ3_Z95 := zoZ3.1
            have zqZ3_Z95 := zoZ3.2.1
            have y91 : H.size ≤ Hk85.size + (zcc Z3 - zcc Z95) := by rw [hHk85]; exact y91
            have y92 : tot H ≤ tot Hk85 + (zss Z3 - zss Z95) := by rw [hHk85]; exact y92
            refine W.tight (k := zcc Z - zcc Z95) (n := zss Z - zss Z95) (by first | exact tg9 y91 k86 zlZ95.1 zoZ3.1 | omega) (by first | exact tg9 y92 k87 zlZ95.2.1 zoZ3.2.1 | omega) ?_
            have hl : lv_has ls 3 [(2, .ref (Z95.fa (Int32.toNatClampNeg z12))), (1, .int y1), (0, .ref (ad 5))] := by rw [zlZ95.2.2.2.2 (Int32.toNatClampNeg z12) il14]; exact hl
            replace t97 : MJ V93 Z95 b := t97
            replace t98 : ∃ n, 1 ≤ n ∧ RW V93 gB (rnM gB n (m2, a2, f2 :: r2)) := t98
            refine lv_goto (tgt := 109) hx hb dX5_run_101 (by decide) ?_
            obtain ⟨z99, ez99⟩ : ∃ y : Int32, y = y1 + 1 := ⟨_, rfl⟩
            have hz99 : z99.toInt = y1.toInt + 1 := i_add ez99 rfl (by decide) (by (first | exact om_7cfca28772a4 klp4_0.1 f7 | omega))
            refine lv_iinc (v := z99) (lv' := [(1, .int z99), (2, .ref (Z95.fa (Int32.toNatClampNeg z12))), (0, .ref (ad 5))]) hx hb dX5_run_109 hl (k := 1) rfl (by rw [ez99]; rfl) (by decide) rfl (fun ls hl => ?_)
            refine lv_goto (tgt := 2) hx hb dX5_run_112 (by decide) ?_
            exact ihlp4 z99 V93 Z95 H locs ls (by (first | exact om_6036b630f734 klp4_0.1 f7 hz99 | omega)) t97 (by obtain ⟨k9, h1, h2⟩ := t98; exact ⟨n9 + k9, by omega, by rw [rnM_add, er9]; exact h2⟩) (by (first | exact om_4c597ccc4a45 hn hz99 | omega)) (agr.tr (agr.tr agr.rf ajV2 (by decide) (by decide)) ajV93 (by decide) (by decide)) hMV93 zoZ95 hK hP hD hS (lv_sub hl [0, 2] rfl)
          have gq83 : ((V2 67 (Int32.toNatClampNeg z12))).toInt ≠ 4 := b_neq rfl (by decide) q83
          refine lv_tableOut (x := (V2 67 (Int32.toNatClampNeg z12))) (tgt := 104) hx hb dX5_run_31 (by omega) (by decide) ?_
          refine lv_aload_n hx hb dX5_run_104 rfl (lv_at hl 2 rfl) ?_
          refine lv_aload_n hx hb dX5_run_105 rfl (lv_at hl 0 rfl) ?_
          have bc100 : BKc V2 b gB := BKc.b4 bc (agr.b4 (show agr [(3, 13), (3, 14), (3, 15), (4, 5), (4, 6), (5, 6), (5, 7), (5, 8), (5, 9), (5, 10), (5, 11), (5, 12), (5, 13), (5, 14)] [24, 25, 26, 27, 28, 29, 30, 31, 32, 33, 34, 35, 36, 37, 39, 40, 67, 68, 69, 70, 71, 72, 73, 74, 75, 76, 77, 78, 79, 80, 81, 82, 83, 84, 85] V V2 from (agr.tr agr.rf ajV2 (by decide) (by decide))) (by decide))
          refine W.know (fun k102 k103 => ?_)
          obtain ⟨Hk101, hHk101⟩ : ∃ z, z = H := ⟨_, rfl⟩
          have k102 : Hk101.size ≤ s.heap.size + (zcc Z - zcc Z3) := by rw [hHk101]; exact k102
          have k103 : tot Hk101 ≤ tot s.heap + (zss Z - zss Z3) := by rw [hHk101]; exact k103
          refine gZ_void (gA_runV (As := [.ref (Z3.fa (Int32.toNatClampNeg z12))]) (rest := []) (ci := 5) (q0 := 5) hx hb hml hown hg hP hD hK hS hA hnw hgk (x_goOnClosing9 l D ks H.size ad kk V2 L Z3 (b) ((Int32.toNatClampNeg z12)) (gB) (m2) (a2) (f2) (r2) hMV2 (show b < 2 from by (first | exact om_f940a4667dd6 hb2 | omega)) (show (Int32.toNatClampNeg z12) < Z3.nf from by (first | exact om_8c5722e49bb1 il14 | omega)) (MJ.op (d := (Int32.toNatClampNeg z12)) xlp4_0 (by omega)) (show ((Int32.toNatClampNeg z12) : Int) + 1 = (V2 5 6).toInt from by (first | exact om_c968828d0a40 hz12 kc13 | omega)) (show (V2 67 (Int32.toNatClampNeg z12)).toInt ≠ 0 ∧ (V2 67 (Int32.toNatClampNeg z12)).toInt ≠ 1 ∧ (V2 67 (Int32.toNatClampNeg z12)).toInt ≠ 2 ∧ (V2 67 (Int32.toNatClampNeg z12)).toInt ≠ 3 ∧ (V2 67 (Int32.toNatClampNeg z12)).toInt ≠ 4 from by omega) rw9 bc100 sf) w1493 w1495 w78 w171 w1496 rfl xgMachine hdV_yX5_goOnClosing ⟨Nat.le_of_ble_eq_true rfl, Nat.le_of_ble_eq_true rfl⟩ rfl hl.1 rfl (Nat.le_of_ble_eq_true rfl) dX5_run_106 ⟨z1 zoZ3.1, z1 zoZ3.2.1⟩) hD hS hA (fun u105 H locs w106 hP hD hK hS y107 y108 => ?_)
          obtain ⟨V109, L110, Z111⟩ := u105
          obtain ⟨hMV109, ajV109, axL110, zlZ111, t113, t114⟩ := w106
          have axL110 : L = L110 := Eq.symm axL110
          subst axL110
          replace hP : va_P D vwCl (xw ad kk V109 L Z111) H := hP
          replace hD : va_D A (xw ad kk V109 L Z111) := hD
          replace hK : va_K D vwCl (xty kk Z111) s := hK
          replace hMV109 : rgd bX V109 := hMV109
          replace ajV109 : agr [(4, 6), (5, 6), (5, 9), (5, 10)] [25, 28, 36, 37, 67, 68, 69, 70, 71, 72, 73, 74, 75, 76, 77, 78, 79, 80, 81, 82, 83, 84, 85] V2 V109 := ajV109
          have agV109 : agr [(3, 13), (3, 14), (3, 15), (4, 5), (4, 6), (5, 6), (5, 7), (5, 8), (5, 9), (5, 10), (5, 11), (5, 12), (5, 13), (5, 14)] [24, 25, 26, 27, 28, 29, 30, 31, 32, 33, 34, 35, 36, 37, 39, 40, 67, 68, 69, 70, 71, 72, 73, 74, 75, 76, 77, 78, 79, 80, 81, 82, 83, 84, 85] V V109 := agV2.tr ajV109 (by decide) (by decide)
          replace zlZ111 : ZL Z3 Z111 := zlZ111
          have zoZ111 : ZL Z Z111 := ZL.tr zoZ3 zlZ111
          have ziZ111 := zlZ111.1
          have zjZ111 := zlZ111.2.1
          have zkZ111 := zlZ111.2.2.1
          have zmZ111 := zoZ111.1
          have znZ111 := zoZ111.2.1
          have zpZ3_Z111 := zoZ3.1
          have zqZ3_Z111 := zoZ3.2.1
          have y107 : H.size ≤ Hk101.size + (zcc Z3 - zcc Z111) := by rw [hHk101]; exact y107
          have y108 : tot H ≤ tot Hk101 + (zss Z3 - zss Z111) := by rw [hHk101]; exact y108
          refine W.tight (k := zcc Z - zcc Z111) (n := zss Z - zss Z111) (by first | exact tg9 y107 k102 zlZ111.1 zoZ3.1 | omega) (by first | exact tg9 y108 k103 zlZ111.2.1 zoZ3.2.1 | omega) ?_
          have hl : lv_has ls 3 [(2, .ref (Z111.fa (Int32.toNatClampNeg z12))), (1, .int y1), (0, .ref (ad 5))] := by rw [zlZ111.2.2.2.2 (Int32.toNatClampNeg z12) il14]; exact hl
          replace t113 : MJ V109 Z111 b := t113
          replace t114 : RW V109 gB (stM gB (m2, a2, f2 :: r2)) := t114
          obtain ⟨z115, ez115⟩ : ∃ y : Int32, y = y1 + 1 := ⟨_, rfl⟩
          have hz115 : z115.toInt = y1.toInt + 1 := i_add ez115 rfl (by decide) (by (first | exact om_7cfca28772a4 klp4_0.1 f7 | omega))
          refine lv_iinc (v := z115) (lv' := [(1, .int z115), (2, .ref (Z111.fa (Int32.toNatClampNeg z12))), (0, .ref (ad 5))]) hx hb dX5_run_109 hl (k := 1) rfl (by rw [ez115]; rfl) (by decide) rfl (fun ls hl => ?_)
          refine lv_goto (tgt := 2) hx hb dX5_run_112 (by decide) ?_
          exact ihlp4 z115 V109 Z111 H locs ls (by (first | exact om_6036b630f734 klp4_0.1 f7 hz115 | omega)) t113 ⟨n9 + 1, by omega, (by rw [rnM_add, er9]; exact t114)⟩ (by (first | exact om_4c597ccc4a45 hn hz115 | omega)) (agr.tr (agr.tr agr.rf ajV2 (by decide) (by decide)) ajV109 (by decide) (by decide)) hMV109 zoZ111 hK hP hD hS (lv_sub hl [0, 2] rfl)
  have r116 : Int32.toInt 0 = 0 := by decide
  exact lp4 ((1000000 - (Int32.toInt 0) + 1 : Int).toNat) 0 V Z H locs ls (by decide) mj ⟨0, by decide, rwq⟩ (by (first | exact om_4cc8af65a62d | omega)) agr.rf hMV zoZ hK hP hD hS (lv_sub hl [0, 1] rfl)
end
