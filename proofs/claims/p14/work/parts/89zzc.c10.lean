/-! an E reckons with two values; an E at work is within the code; a run goes on -/
theorem GOs.rn {B : Bk} : ∀ (n : Nat) {x : MS}, GOs B x → (∀ j, j < n → (rnM B j x).2.2 ≠ []) → GOs B (rnM B n x)
  | 0, _, h, _ => h
  | n + 1, x, h, q => by
    obtain ⟨m, a, fs⟩ := x
    cases fs with
    | nil => exact absurd rfl (q 0 (by omega))
    | cons f r => exact GOs.rn n (GOs.nx h) (fun j hj => q (j + 1) (by omega))
section RWk
variable {V W : Vf} {B : Bk} {m : Mm} {a : Int32} {f : Fr} {r : List Fr}
theorem RW.wat (h : RW V B (m, a, f :: r)) (s : SF B (m, a, f :: r)) (k : (V 67 r.length).toInt = 4) (z : (V 68 r.length).toInt = 0) : ∃ lv o c sc me ps at9 v p, f = Fwork lv o c sc me ps at9 v p ∧ at9.toNat < cl B.1 ∧ (V 84 r.length).toInt = ((psz (opf B.1) at9.toNat : Nat) : Int) ∧ ∃ q, OQ B (ndW B c ps) (decide (0 < ps)) at9.toNat p.length q := by
  obtain ⟨_, _, _, t, _, t0, _, h2, _, _, _⟩ := h
  rcases FRc.k4 h2 k with ⟨lv, o, c, sc, me, ps, at9, v, p, e⟩ | ⟨lv, o, c, sc, me, ps, at9, v, p, e⟩ | ⟨lv, o, c, sc, at9, nd, tg, v, g, p, e⟩ | ⟨lv, o, c, sc, at9, nd, tg, v, g, p, e⟩ | ⟨lv, o, c, sc, at9, nd, tg, it, v, g, u, p, e⟩
  · subst e
    obtain ⟨q, oq⟩ : SFt B m a (Fwork lv o c sc me ps at9 v p) := s.2.2.2.2 _ _ rfl
    exact ⟨lv, o, c, sc, me, ps, at9, v, p, rfl, OQ.lt oq, h2.2.2.2.1.2, q, oq⟩
  · subst e
    have y := h2.1.2
    omega
  · subst e
    have y := h2.1.2
    omega
  · subst e
    have y := h2.1.2
    omega
  · subst e
    have y := h2.1.2
    omega
theorem RW.cmp {lv o c sc me ps at9 : Int} {v x y val : Int32} {p : List Int32} (h : RW V B (m, a, Fwork lv o c sc me ps at9 v (x :: y :: p) :: r)) (e84 : (W 84 r.length).toInt = (V 84 r.length).toInt + 1) (pz : psz (opf B.1) (at9.toNat + 1) = psz (opf B.1) at9.toNat + 1) (e57 : (W 5 7).toInt = (V 5 7).toInt - 1) (e39 : ∀ j : Nat, (j : Int) + 2 = (V 5 7).toInt → W 39 j = val) (o39 : ∀ j : Nat, (j : Int) + 2 < (V 5 7).toInt → W 39 j = V 39 j) (cc : ∀ x k, x ≠ 39 → ¬ (x = 84 ∧ k = r.length) → ¬ (x = 5 ∧ k = 7) → W x k = V x k) : RW W B (m, a, Fwork lv o c sc me ps ((at9.toNat + 1 : Nat) : Int) v (val :: p) :: r) := by
  obtain ⟨⟨ow, hn⟩, hh, hd, t, ht, t0, h1, h2, h3, ⟨t1, g1, g2, t2, g3, g4, g5⟩, h5⟩ := h
  have h1 : t = t0 + (p.length + 1 + 1) := h1
  have es : ESw V W := ⟨fun k => cc 3 k (by decide) (by omega) (by omega), cc 4 6 (by decide) (by omega) (by omega), ⟨cc 5 13 (by decide) (by omega) (by omega), cc 5 14 (by decide) (by omega) (by omega), cc 5 8 (by decide) (by omega) (by omega)⟩, fun c k _ _ _ => cc c k (by omega) (by omega) (by omega), fun k => cc 40 k (by decide) (by omega) (by omega)⟩
  refine ⟨⟨ow, hn.es es⟩, ⟨?_, ?_, ?_, ?_, ?_⟩, ?_, t2 + 1, by omega, t0, ?_, ?_, ?_, ⟨t2, rfl, e39 t2 (by omega), g5.mv (fun j hj => o39 j (by omega))⟩, h5.mv (fun i hi c _ _ => cc c i (by omega) (by omega) (by omega)) (fun j hj => o39 j (by omega)) (by rw [cc 3 13 (by decide) (by omega) (by omega)]; exact Int.le_refl _) (cc 3 12 (by decide) (by omega) (by omega))⟩
  · rw [cc 5 9 (by decide) (by omega) (by omega)]
    exact hh.1
  · intro z
    rw [cc 5 10 (by decide) (by omega) (by omega)]
    exact hh.2.1 z
  · intro z
    rw [cc 5 11 (by decide) (by omega) (by omega), cc 5 12 (by decide) (by omega) (by omega)]
    exact hh.2.2.1 z
  · rw [cc 5 8 (by decide) (by omega) (by omega)]
    exact hh.2.2.2.1
  · intro i hi
    rw [cc 40 i (by decide) (by omega) (by omega)]
    exact hh.2.2.2.2 i hi
  · rw [cc 5 6 (by decide) (by omega) (by omega)]
    exact hd
  · show t2 + 1 = t0 + (p.length + 1)
    omega
  · obtain ⟨k1, oc, hp, ⟨a0, q⟩, q74⟩ := h2
    refine ⟨?_, ?_, ?_, ⟨Int.natCast_nonneg _, ?_⟩, ?_⟩
    · unfold kp at k1 ⊢
      rw [cc 67 _ (by decide) (by omega) (by omega), cc 68 _ (by decide) (by omega) (by omega)]
      exact k1
    · unfold ocs at oc ⊢
      rw [cc 69 _ (by decide) (by omega) (by omega), cc 70 _ (by decide) (by omega) (by omega), cc 71 _ (by decide) (by omega) (by omega), cc 72 _ (by decide) (by omega) (by omega), cc 3 12 (by decide) (by omega) (by omega), cc 3 13 (by decide) (by omega) (by omega)]
      exact oc
    · rw [cc 73 _ (by decide) (by omega) (by omega), cc 75 _ (by decide) (by omega) (by omega)]
      exact hp
    · show _ = ((psz (opf B.1) (at9.toNat + 1) : Nat) : Int)
      omega
    · rw [cc 74 _ (by decide) (by omega) (by omega)]
      exact q74
  · intro z1 z2
    rw [cc 85 _ (by decide) (by omega) (by omega)]
    exact h3 z1 z2
end RWk
theorem up2_bk {V W : Vf} {c k : Nat} {z : Int32} (h : W = up2 V c k z) : up2 W c k (V c k) = V := by
  rw [h]
  funext x j
  by_cases q : x = c ∧ j = k
  · rw [q.1, q.2]
    exact up2_s rfl
  · rw [up2_pl q, up2_pl q]
theorem enO_r : ∀ o : Fin 16, 5 ≤ enO o.val → enO o.val < 10 → 5 ≤ o.val ∧ o.val ≤ 9 := by decide
theorem enO_59 {o : Nat} (h : o < 16) (a : 5 ≤ enO o) (b : enO o < 10) : 5 ≤ o ∧ o ≤ 9 := enO_r ⟨o, h⟩ a b


abbrev r_x_compute9 : Room := { frames := 0, cells := 0, slots := 0, locals := 0 }
abbrev q_x_compute9 (D : va_G) (p0 : Int32) (p1 : Int32) (p2 : Int32) (A : Nat → Prop) : Array Value → State → Outcome → State → Prop := va_Qi (fun (r : Int32) (_ : Unit) => ((p0.toInt = 5 → r = p1 + p2) ∧ (p0.toInt = 6 → r = p1 - p2) ∧ (p0.toInt = 7 → r = p1 * p2) ∧ (p0.toInt = 8 → r = (if p1.toInt < p2.toInt then 1 else 0)) ∧ (9 ≤ p0.toInt → r = (if p1 = p2 then 1 else 0)))) (fun _ t => gq D A [] [] t) A
set_option maxHeartbeats 4000000 in
set_option maxRecDepth 100000 in
theorem x_compute9 (l : Launch) (D : va_G) (ks : KS) (sz : Nat) (p0 : Int32) (p1 : Int32) (p2 : Int32)  : Met l yX5_compute (Cond.code yX5_compute cX5_compute 3 (some .int) :: GW) r_x_compute9 (va_Pc [.int p0, .int p1, .int p2] (gp D ks ([]) ([]) sz)) (q_x_compute9 D p0 p1 p2 (va_A ([]) sz)) 0 0 (va_A ([]) sz) := by
  refine g_met (q_x_compute9 D p0 p1 p2) (by decide) (Nat.le_of_ble_eq_true rfl) ?_
  intro p e s m below meth c A ls H locs hx hb hr hml hown hg hlocks hin hnw hgk hP hK hD hS hA hl
  replace hown : s.vm.findClass RX5 = some m.cls := hown
  replace hl : lv_has ls 3 [(0, .int p0), (1, .int p1), (2, .int p2)] := hl
  refine lv_iload_n hx hb dX5_compute_0 rfl (lv_at hl 0 rfl) ?_
  by_cases q1 : p0 = 5
  · refine g_top (v := 5) q1 ?_
    have fq1 : p0.toInt = 5 := b_eq rfl (by decide) q1
    refine lv_tableIn (x := 5) (off := 31) (tgt := 32) hx hb dX5_compute_1 (by decide) (by decide) (by decide) (by decide) ?_
    refine lv_iload_n hx hb dX5_compute_32 rfl (lv_at hl 1 rfl) ?_
    refine lv_iload_n hx hb dX5_compute_33 rfl (lv_at hl 2 rfl) ?_
    refine lv_iadd hx hb dX5_compute_34 ?_
    have r2 := i_full p1
    have r3 := i_full p2
    refine lv_topi (fun z4 ez4 => ?_)
    have hz4 : Imp (-2147483648 ≤ p1.toInt + p2.toInt ∧ p1.toInt + p2.toInt ≤ 2147483647) (z4.toInt = p1.toInt + p2.toInt) := Imp.mk (fun hp => i_add ez4 rfl rfl hp)
    exact W.iret (v := z4) hx hb hr (fun t ht hW => ⟨⟨z4, (), rfl, ⟨(fun _ => ez4), (fun h9 => by exfalso; omega), (fun h9 => by exfalso; omega), (fun h9 => by exfalso; omega), (fun h9 => by exfalso; omega)⟩, by rw [ht]; exact hP, va_K.moved hW.alike hK, hD⟩, hS.F ht⟩) hS.2.2 dX5_compute_35
  have gq1 : p0.toInt ≠ 5 := b_neq rfl (by decide) q1
  by_cases q5 : p0 = 6
  · refine g_top (v := 6) q5 ?_
    have fq5 : p0.toInt = 6 := b_eq rfl (by decide) q5
    refine lv_tableIn (x := 6) (off := 35) (tgt := 36) hx hb dX5_compute_1 (by decide) (by decide) (by decide) (by decide) ?_
    refine lv_iload_n hx hb dX5_compute_36 rfl (lv_at hl 1 rfl) ?_
    refine lv_iload_n hx hb dX5_compute_37 rfl (lv_at hl 2 rfl) ?_
    refine lv_isub hx hb dX5_compute_38 ?_
    have r6 := i_full p1
    have r7 := i_full p2
    refine lv_topi (fun z8 ez8 => ?_)
    have hz8 : Imp (-2147483648 ≤ p1.toInt - p2.toInt ∧ p1.toInt - p2.toInt ≤ 2147483647) (z8.toInt = p1.toInt - p2.toInt) := Imp.mk (fun hp => i_sub ez8 rfl rfl hp)
    exact W.iret (v := z8) hx hb hr (fun t ht hW => ⟨⟨z8, (), rfl, ⟨(fun h9 => by exfalso; omega), (fun _ => ez8), (fun h9 => by exfalso; omega), (fun h9 => by exfalso; omega), (fun h9 => by exfalso; omega)⟩, by rw [ht]; exact hP, va_K.moved hW.alike hK, hD⟩, hS.F ht⟩) hS.2.2 dX5_compute_39
  have gq5 : p0.toInt ≠ 6 := b_neq rfl (by decide) q5
  by_cases q9 : p0 = 7
  · refine g_top (v := 7) q9 ?_
    have fq9 : p0.toInt = 7 := b_eq rfl (by decide) q9
    refine lv_tableIn (x := 7) (off := 39) (tgt := 40) hx hb dX5_compute_1 (by decide) (by decide) (by decide) (by decide) ?_
    refine lv_iload_n hx hb dX5_compute_40 rfl (lv_at hl 1 rfl) ?_
    refine lv_iload_n hx hb dX5_compute_41 rfl (lv_at hl 2 rfl) ?_
    refine lv_imul hx hb dX5_compute_42 ?_
    have r10 := i_full p1
    have r11 := i_full p2
    refine lv_topi (fun z12 ez12 => ?_)
    exact W.iret (v := z12) hx hb hr (fun t ht hW => ⟨⟨z12, (), rfl, ⟨(fun h9 => by exfalso; omega), (fun h9 => by exfalso; omega), (fun _ => ez12), (fun h9 => by exfalso; omega), (fun h9 => by exfalso; omega)⟩, by rw [ht]; exact hP, va_K.moved hW.alike hK, hD⟩, hS.F ht⟩) hS.2.2 dX5_compute_43
  have gq9 : p0.toInt ≠ 7 := b_neq rfl (by decide) q9
  by_cases q13 : p0 = 8
  · refine g_top (v := 8) q13 ?_
    have fq13 : p0.toInt = 8 := b_eq rfl (by decide) q13
    refine lv_tableIn (x := 8) (off := 43) (tgt := 44) hx hb dX5_compute_1 (by decide) (by decide) (by decide) (by decide) ?_
    refine lv_iload_n hx hb dX5_compute_44 rfl (lv_at hl 1 rfl) ?_
    refine lv_iload_n hx hb dX5_compute_45 rfl (lv_at hl 2 rfl) ?_
    refine lv_icmp_ge (tgt := 53) hx hb dX5_compute_46 (by decide) (fun c14 => ?_) (fun c14 => ?_)
    · skip
      have f15 : p2.toInt ≤ p1.toInt := b_le rfl rfl c14
      refine lv_iconst (v := 0) hx hb dX5_compute_53 (by decide) ?_
      exact W.iret (v := 0) hx hb hr (fun t ht hW => ⟨⟨0, (), rfl, ⟨(fun h9 => by exfalso; omega), (fun h9 => by exfalso; omega), (fun h9 => by exfalso; omega), (fun _ => by rw [if_neg (by omega)]), (fun h9 => by exfalso; omega)⟩, by rw [ht]; exact hP, va_K.moved hW.alike hK, hD⟩, hS.F ht⟩) hS.2.2 dX5_compute_54
    · skip
      have f16 : p1.toInt < p2.toInt := b_nle rfl rfl c14
      refine lv_iconst (v := 1) hx hb dX5_compute_49 (by decide) ?_
      refine lv_goto (tgt := 54) hx hb dX5_compute_50 (by decide) ?_
      exact W.iret (v := 1) hx hb hr (fun t ht hW => ⟨⟨1, (), rfl, ⟨(fun h9 => by exfalso; omega), (fun h9 => by exfalso; omega), (fun h9 => by exfalso; omega), (fun _ => by rw [if_pos (by omega)]), (fun h9 => by exfalso; omega)⟩, by rw [ht]; exact hP, va_K.moved hW.alike hK, hD⟩, hS.F ht⟩) hS.2.2 dX5_compute_54
  have gq13 : p0.toInt ≠ 8 := b_neq rfl (by decide) q13
  refine lv_tableOut (x := p0) (tgt := 55) hx hb dX5_compute_1 (by omega) (by decide) ?_
  refine lv_iload_n hx hb dX5_compute_55 rfl (lv_at hl 1 rfl) ?_
  refine lv_iload_n hx hb dX5_compute_56 rfl (lv_at hl 2 rfl) ?_
  refine lv_icmp_ne (tgt := 64) hx hb dX5_compute_57 (by decide) (fun c17 => ?_) (fun c17 => ?_)
  · skip
    have f18 : p1.toInt ≠ p2.toInt := b_neq rfl rfl c17
    refine lv_iconst (v := 0) hx hb dX5_compute_64 (by decide) ?_
    exact W.iret (v := 0) hx hb hr (fun t ht hW => ⟨⟨0, (), rfl, ⟨(fun h9 => by exfalso; omega), (fun h9 => by exfalso; omega), (fun h9 => by exfalso; omega), (fun h9 => by exfalso; omega), (fun _ => by rw [if_neg (fun h8 => by have h7 := congrArg Int32.toInt h8; omega)])⟩, by rw [ht]; exact hP, va_K.moved hW.alike hK, hD⟩, hS.F ht⟩) hS.2.2 dX5_compute_65
  · skip
    have f19 : p1.toInt = p2.toInt := b_eq rfl rfl c17
    refine lv_iconst (v := 1) hx hb dX5_compute_60 (by decide) ?_
    refine lv_goto (tgt := 65) hx hb dX5_compute_61 (by decide) ?_
    exact W.iret (v := 1) hx hb hr (fun t ht hW => ⟨⟨1, (), rfl, ⟨(fun h9 => by exfalso; omega), (fun h9 => by exfalso; omega), (fun h9 => by exfalso; omega), (fun h9 => by exfalso; omega), (fun _ => by rw [if_pos (Int32.toInt_inj.mp (by omega))])⟩, by rw [ht]; exact hP, va_K.moved hW.alike hK, hD⟩, hS.F ht⟩) hS.2.2 dX5_compute_65
abbrev r_x_work9 (Z : XZ) : Room := { frames := 5, cells := zcc Z, slots := zss Z, locals := 112 }
abbrev q_x_work9 (D : va_G) (ks : KS) (ad : Nat → Nat) (kk : Nat → ClassId) (V : Vf) (L : Lf) (Z : XZ) (b : Nat) (gf : Nat) (gB : Bk) (gm : Mm) (ga : Int32) (gfr : Fr) (gr : List Fr) (A : Nat → Prop) : Array Value → State → Outcome → State → Prop := qZv D (fun (u : Vf × Lf × XZ) => rgd bX u.1 ∧ agr [(5, 6), (5, 7), (5, 9), (5, 10), (5, 11), (5, 12), (5, 13), (5, 14)] [39, 67, 68, 69, 70, 71, 72, 73, 74, 75, 76, 77, 78, 79, 80, 81, 82, 83, 84, 85] V u.1 ∧ u.2.1 = L ∧ ZL Z u.2.2 ∧ (MJ u.1 u.2.2 b) ∧ (∃ n, 1 ≤ n ∧ RW u.1 gB (rnM gB n (gm, ga, gfr :: gr)))) (fun u => xw ad kk u.1 u.2.1 u.2.2) (fun u => xty kk u.2.2) (fun u => zcc Z - zcc u.2.2) (fun u => zss Z - zss u.2.2) A
set_option maxHeartbeats 4000000 in
set_option maxRecDepth 100000 in
theorem x_work9 (l : Launch) (D : va_G) (ks : KS) (sz : Nat) (ad : Nat → Nat) (kk : Nat → ClassId) (V : Vf) (L : Lf) (Z : XZ) (b : Nat) (gf : Nat) (gB : Bk) (gm : Mm) (ga : Int32) (gfr : Fr) (gr : List Fr) (hMV : rgd bX V) (hb2 : b < 2) (hgf : gf < Z.nf) (mo : MO V Z b gf True True True) (gd : (gf : Int) + 1 = (V 5 6).toInt) (gk : (V 67 gf).toInt = 4) (gph : (V 68 gf).toInt = 0) (rwq : RW V gB (gm, ga, gfr :: gr)) (bc : BKc V b gB) (go9 : GOs gB (gm, ga, gfr :: gr))  : Met l yX5_work (Cond.code yX5_work cX5_work 6 none :: GW) (r_x_work9 Z) (va_Pc [.ref (ad 5), .ref (Z.fa gf)] (gp D ks (xw ad kk V L Z) (xty kk Z) sz)) (q_x_work9 D ks ad kk V L Z  b gf gB gm ga gfr gr (va_A (xw ad kk V L Z) sz)) (zcc Z) (zss Z) (va_A (xw ad kk V L Z) sz) := by
  refine g_met (q_x_work9 D ks ad kk V L Z  b gf gB gm ga gfr gr) (by decide) (Nat.le_of_ble_eq_true rfl) ?_
  intro p e s m below meth c A ls H locs hx hb hr hml hown hg hlocks hin hnw hgk hP hK hD hS hA hl
  replace hown : s.vm.findClass RX5 = some m.cls := hown
  replace hl : lv_has ls 6 [(0, .ref (ad 5)), (1, .ref (Z.fa gf))] := hl
  replace hP : va_P D vwCl (xw ad kk V L Z) H := hP
  replace hD : va_D A (xw ad kk V L Z) := hD
  replace hK : va_K D vwCl (xty kk Z) s := hK
  have agV : agr [(5, 6), (5, 7), (5, 9), (5, 10), (5, 11), (5, 12), (5, 13), (5, 14)] [39, 67, 68, 69, 70, 71, 72, 73, 74, 75, 76, 77, 78, 79, 80, 81, 82, 83, 84, 85] V V := agr.rf
  have zoZ : ZL Z Z := ZL.rf
  refine W.know (fun ka kb => ?_)
  refine W.tight (k := zcc Z - zcc Z) (n := zss Z - zss Z) (by omega) (by omega) ?_
  have r1 : 0 ≤ ((V 5 6)).toInt ∧ ((V 5 6)).toInt ≤ 400 := hMV 5 6
  have kdp := i_clamp (x := V 5 6) rfl (by (first | exact om_c66f1b494bd9 gd | omega))
  have hdn : (gf : Int) + 1 ≤ (Z.nf : Int) := by (first | exact om_29efded833ec hgf | omega)
  have mup := MO.up mo
  have msz := mup.1
  have mbk := mup.2.2.2.1
  obtain ⟨xk, fk⟩ := MO.fk mo
  have r2 : (-1) ≤ ((V 71 gf)).toInt ∧ ((V 71 gf)).toInt ≤ 23 := hMV 71 gf
  have r3 : 0 ≤ ((V 75 gf)).toInt ∧ ((V 75 gf)).toInt ≤ 12 := hMV 75 gf
  have r4 : 0 ≤ ((V 80 gf)).toInt ∧ ((V 80 gf)).toInt ≤ 300 := hMV 80 gf
  have r5 : 0 ≤ ((V 84 gf)).toInt ∧ ((V 84 gf)).toInt ≤ 2147483647 := hMV 84 gf
  have r6 : 0 ≤ ((V 5 8)).toInt ∧ ((V 5 8)).toInt ≤ 300 := hMV 5 8
  have r7 : 0 ≤ ((V 5 9)).toInt ∧ ((V 5 9)).toInt ≤ 3 := hMV 5 9
  have r8 : 0 ≤ ((V 3 13)).toInt ∧ ((V 3 13)).toInt ≤ 300 := hMV 3 13
  have r9 : 0 ≤ ((V 43 (5 * b + 2))).toInt ∧ ((V 43 (5 * b + 2))).toInt ≤ ((xcap (5 * b + 2) : Nat) : Int) := hMV 43 (5 * b + 2)
  have r10 : xcap (5 * b + 2) = 24 := xcap_2
  have r11 : 0 ≤ ((V 41 b)).toInt ∧ ((V 41 b)).toInt ≤ 12 := hMV 41 b
  have r12 : 0 ≤ ((V 42 b)).toInt ∧ ((V 42 b)).toInt ≤ 8200 := hMV 42 b
  have fc := fk.1 (by omega)
  have fo := fk.2.1 (by omega) (by omega)
  have ft := fk.2.2.1 (by omega)
  have fq := fk.2.2.2.1 (by omega)
  refine lv_iconst (v := 1) hx hb dX5_work_0 (by decide) ?_
  refine lv_istore_n (lv' := [(2, .int 1), (0, .ref (ad 5)), (1, .ref (Z.fa gf))]) hx hb dX5_work_1 rfl hl (by decide) rfl (fun ls hl => ?_)
  refine lv_iconst (v := 0) hx hb dX5_work_2 (by decide) ?_
  refine lv_istore_n (lv' := [(3, .int 0), (2, .int 1), (0, .ref (ad 5)), (1, .ref (Z.fa gf))]) hx hb dX5_work_3 rfl hl (by decide) rfl (fun ls hl => ?_)
  have lp16 : ∀ (fulp16 : Nat) (y13 : Int32) (y14 : Int32) (V15 : Vf) (H : Heap) (locs : List Loc) (ls : Array Slot), 0 ≤ y13.toInt ∧ y13.toInt ≤ 8200 → 1 ≤ y14.toInt ∧ y14.toInt ≤ 1 → MO V15 Z b gf True True True → (gf : Int) + 1 = (V15 5 6).toInt → (V15 67 gf).toInt = 4 → (V15 68 gf).toInt = 0 → (∃ n m2 f2, rnM gB n (gm, ga, gfr :: gr) = (m2, ga, f2 :: gr) ∧ RW V15 gB (m2, ga, f2 :: gr) ∧ GOs gB (m2, ga, f2 :: gr) ∧ (y13.toInt = 0 ∨ 1 ≤ n)) → 8200 - y13.toInt < (fulp16 : Int) → agr [(5, 6), (5, 7), (5, 9), (5, 10), (5, 11), (5, 12), (5, 13), (5, 14)] [39, 67, 68, 69, 70, 71, 72, 73, 74, 75, 76, 77, 78, 79, 80, 81, 82, 83, 84, 85] V V15 → rgd bX V15 → va_P D vwCl (xw ad kk V15 L Z) H → va_D A (xw ad kk V15 L Z) → va_S A s.heap H locs → lv_has ls 6 [(3, .int y13), (2, .int y14), (0, .ref (ad 5)), (1, .ref (Z.fa gf))] → W p l e (r_x_work9 Z) s m ([.ref (ad 5), .ref (Z.fa gf)] : List Value).toArray below meth c H locs (zcc Z - zcc Z) (zss Z - zss Z) (MQ below (q_x_work9 D ks ad kk V L Z  b gf gB gm ga gfr gr A) ([.ref (ad 5), .ref (Z.fa gf)] : List Value).toArray s (zcc Z) (zss Z) A) (F0 m 4 ls []) := by
    intro fulp16
    induction fulp16 with
    | zero =>
      intro y13 y14 V15 H locs ls klp16_0 klp16_1 xlp16_0 xlp16_1 xlp16_2 xlp16_3 xlp16_4 hn ajV15 hMV15 hP hD hS hl
      exfalso; (first | exact om_95ea9e43c4d3 klp16_0.2 hn | omega)
    | succ fulp16 ihlp16 =>
      intro y13 y14 V15 H locs ls klp16_0 klp16_1 xlp16_0 xlp16_1 xlp16_2 xlp16_3 xlp16_4 hn ajV15 hMV15 hP hD hS hl
      have agV15 : agr [(5, 6), (5, 7), (5, 9), (5, 10), (5, 11), (5, 12), (5, 13), (5, 14)] [39, 67, 68, 69, 70, 71, 72, 73, 74, 75, 76, 77, 78, 79, 80, 81, 82, 83, 84, 85] V V15 := agV.tr ajV15 (by decide) (by decide)
      have r17 : 0 ≤ ((V15 5 6)).toInt ∧ ((V15 5 6)).toInt ≤ 400 := hMV15 5 6
      have mup := MO.up xlp16_0
      have msz := mup.1
      have mbk := mup.2.2.2.1
      obtain ⟨xk, fk⟩ := MO.fk xlp16_0
      have r18 : (-1) ≤ ((V15 71 gf)).toInt ∧ ((V15 71 gf)).toInt ≤ 23 := hMV15 71 gf
      have r19 : 0 ≤ ((V15 75 gf)).toInt ∧ ((V15 75 gf)).toInt ≤ 12 := hMV15 75 gf
      have r20 : 0 ≤ ((V15 80 gf)).toInt ∧ ((V15 80 gf)).toInt ≤ 300 := hMV15 80 gf
      have r21 : 0 ≤ ((V15 84 gf)).toInt ∧ ((V15 84 gf)).toInt ≤ 2147483647 := hMV15 84 gf
      have pq22 : (V15 5 8).toInt = ((V 5 8)).toInt := congrArg Int32.toInt (ajV15 5 8 rfl)
      have r23 : 0 ≤ ((V15 5 9)).toInt ∧ ((V15 5 9)).toInt ≤ 3 := hMV15 5 9
      have pq24 : (V15 3 13).toInt = ((V 3 13)).toInt := congrArg Int32.toInt (ajV15 3 13 rfl)
      have pq25 : (V15 43 (5 * b + 2)).toInt = ((V 43 (5 * b + 2))).toInt := congrArg Int32.toInt (ajV15 43 (5 * b + 2) rfl)
      have pq26 : (V15 41 b).toInt = ((V 41 b)).toInt := congrArg Int32.toInt (ajV15 41 b rfl)
      have pq27 : (V15 42 b).toInt = ((V 42 b)).toInt := congrArg Int32.toInt (ajV15 42 b rfl)
      have fc := fk.1 (by omega)
      have fo := fk.2.1 (by omega) (by omega)
      have ft := fk.2.2.1 (by omega)
      have fq := fk.2.2.2.1 (by omega)
      obtain ⟨n9, m2, f2, er9, rw9, go2, nz9⟩ := xlp16_4
      have rdh : (V15 5 6).toInt = ((gr.length + 1 : Nat) : Int) := rw9.2.2.1
      have gl9 : gr.length = gf := by (first | exact om_ec03263ced6a xlp16_1 rdh | omega)
      obtain ⟨lv, o, c, sc, me, ps, at9, v, p, hfe, hi9, q84, q9, oq9⟩ := RW.wat rw9 (GOs.sf go2) (by rw [gl9]; omega) (by rw [gl9]; omega)
      rw [gl9] at q84
      have bc28 : BKc V15 b gB := BKc.b4 bc (agr.b4 (show agr [(5, 6), (5, 7), (5, 9), (5, 10), (5, 11), (5, 12), (5, 13), (5, 14)] [39, 67, 68, 69, 70, 71, 72, 73, 74, 75, 76, 77, 78, 79, 80, 81, 82, 83, 84, 85] V V15 from (agr.tr agr.rf ajV15 (by decide) (by decide))) (by decide))
      have wl9 : psz (opf gB.1) at9.toNat < wl gB.1 := psz_lt hi9
      have c42 : (V15 42 b).toInt = ((wl gB.1 : Nat) : Int) := (bc28).1.1
      refine lv_iload_n hx hb dX5_work_4 rfl (lv_at hl 1 rfl) ?_
      refine lv_if_eq (tgt := 119) hx hb dX5_work_5 (by decide) (fun c29 => ?_) (fun c29 => ?_)
      · skip
        have f30 : y14.toInt = 0 := b_eq rfl (by decide) c29
        exfalso; (first | exact om_09885ab343b9 klp16_1.1 f30 | omega)
      · skip
        have f31 : y14.toInt ≠ 0 := b_neq rfl (by decide) c29
        refine lv_iload_n hx hb dX5_work_8 rfl (lv_at hl 0 rfl) ?_
        refine lv_aload_n hx hb dX5_work_9 rfl (lv_at hl 2 rfl) ?_
        refine va_get (D := D) (ci := 5) (v := .ref (ad (38 + Int32.toNatClampNeg (V15 5 5)))) (fs := (xfMachine ad V15 L Z)) (C := RX5) (T := TX5) (N := 15) hx hb hg inX5 hown hK hP 5 xgMachine rfl 5 (by decide) (hg _ w672) (fun _ h9 => h9) rfl dX5_work_10 ?_
        have pq32 : (V15 5 5).toInt = ((V 5 5)).toInt := congrArg Int32.toInt (ajV15 5 5 rfl)
        have r33 : 0 ≤ ((V 5 5)).toInt ∧ ((V 5 5)).toInt ≤ 1 := hMV 5 5
        refine g_topv (v := .ref (ad (38 + b))) (rfP (by omega)) ?_
        refine va_getN (D := D) (ci := 0) (v := .int (V15 42 b)) (fs := (xfBook ad V15 b)) (C := RX0) (T := TX0) (N := 13) hx hb hg inX0 hown hK hP (38 + b) (xgBook hb2) rfl 12 (by decide) (hnw.use 631 n631 rfl) (fun _ h9 => h9) rfl dX5_work_13 ?_
        refine g_top (v := (V 42 b)) (ajV15 42 b rfl) ?_
        refine lv_icmp_ge (tgt := 119) hx hb dX5_work_16 (by decide) (fun c34 => ?_) (fun c34 => ?_)
        · skip
          have f35 : ((V 42 b)).toInt ≤ y13.toInt := b_le rfl rfl c34
          have me36 : ME V15 V15 gf := ME.rf
          have af38 : (V15 42 b).toInt ≤ (V15 84 gf).toInt ∨ (bdp V15 b (V15 84 gf).toInt.toNat).1 = true := by rw [me36.1.bd, me36.1 42 b (by decide) (by decide)]; exact ft
          have mo37 : MO V15 Z b gf True (QN V15 b) (QN V15 b) := MO.ch xlp16_0 me36 rfl rfl (fun _ => Or.inl (by omega)) (fun x h => FK.k4 (by omega) (by omega) (by omega) af38 (by omega) (fun hph => absurd hph (by omega)))
          have rp39 : MJ V15 Z b := MO.mj mo37 (by (first | exact om_c09d41618ed8 hgf | omega)) (by (first | exact om_f83a9f502b35 rdh gl9 | omega)) id id Or.inr
          refine W.know (fun kr1 kr2 => ?_)
          refine W.widen (k := zcc Z) (n := zss Z) (Nat.sub_le _ _) (Nat.sub_le _ _) ?_
          exact W.vret hx hb hr (fun t ht hW => ⟨⟨(V15, L, Z), rfl, ⟨hMV15, agV15, rfl, zoZ, rp39, ⟨n9, by omega, (by rw [er9]; exact rw9)⟩⟩, ⟨by rw [ht]; exact hP, va_K.moved hW.alike hK, hD⟩, by rw [ht]; exact kr1, by rw [ht]; exact kr2⟩, hS.F ht⟩) hS.2.2 dX5_work_119
        · skip
          have f40 : y13.toInt < ((V 42 b)).toInt := b_nle rfl rfl c34
          refine lv_aload_n hx hb dX5_work_19 rfl (lv_at hl 3 rfl) ?_
          refine va_getN (D := D) (ci := 4) (v := .int (V15 84 gf)) (fs := (xfFrame V15 gf)) (C := RX4) (T := TX4) (N := 19) hx hb hg inX4 hown hK hP (336 + gf) (xgFrame hgf) rfl 17 (by decide) (hnw.use 1206 n1206 rfl) (fun _ h9 => h9) rfl dX5_work_20 ?_
          refine lv_aload_n hx hb dX5_work_23 rfl (lv_at hl 2 rfl) ?_
          refine va_get (D := D) (ci := 5) (v := .ref (ad (38 + Int32.toNatClampNeg (V15 5 5)))) (fs := (xfMachine ad V15 L Z)) (C := RX5) (T := TX5) (N := 15) hx hb hg inX5 hown hK hP 5 xgMachine rfl 5 (by decide) (hg _ w672) (fun _ h9 => h9) rfl dX5_work_24 ?_
          refine g_topv (v := .ref (ad (38 + b))) (rfP (by omega)) ?_
          refine va_getN (D := D) (ci := 0) (v := .int (V15 42 b)) (fs := (xfBook ad V15 b)) (C := RX0) (T := TX0) (N := 13) hx hb hg inX0 hown hK hP (38 + b) (xgBook hb2) rfl 12 (by decide) (hnw.use 631 n631 rfl) (fun _ h9 => h9) rfl dX5_work_27 ?_
          refine g_top (v := (V 42 b)) (ajV15 42 b rfl) ?_
          refine lv_icmp_ge (tgt := 119) hx hb dX5_work_30 (by decide) (fun c41 => ?_) (fun c41 => ?_)
          · skip
            have f42 : ((V 42 b)).toInt ≤ ((V15 84 gf)).toInt := b_le rfl rfl c41
            have me43 : ME V15 V15 gf := ME.rf
            have af45 : (V15 42 b).toInt ≤ (V15 84 gf).toInt ∨ (bdp V15 b (V15 84 gf).toInt.toNat).1 = true := by rw [me43.1.bd, me43.1 42 b (by decide) (by decide)]; exact ft
            have mo44 : MO V15 Z b gf True (QN V15 b) (QN V15 b) := MO.ch xlp16_0 me43 rfl rfl (fun _ => Or.inl (by omega)) (fun x h => FK.k4 (by omega) (by omega) (by omega) af45 (by omega) (fun hph => absurd hph (by omega)))
            have rp46 : MJ V15 Z b := MO.mj mo44 (by (first | exact om_c09d41618ed8 hgf | omega)) (by (first | exact om_6815fc1b8223 xlp16_1 | omega)) id id Or.inr
            refine W.know (fun kr1 kr2 => ?_)
            refine W.widen (k := zcc Z) (n := zss Z) (Nat.sub_le _ _) (Nat.sub_le _ _) ?_
            exact W.vret hx hb hr (fun t ht hW => ⟨⟨(V15, L, Z), rfl, ⟨hMV15, agV15, rfl, zoZ, rp46, ⟨n9, by omega, (by rw [er9]; exact rw9)⟩⟩, ⟨by rw [ht]; exact hP, va_K.moved hW.alike hK, hD⟩, by rw [ht]; exact kr1, by rw [ht]; exact kr2⟩, hS.F ht⟩) hS.2.2 dX5_work_119
          · skip
            have f47 : ((V15 84 gf)).toInt < ((V 42 b)).toInt := b_nle rfl rfl c41
            refine lv_aload_n hx hb dX5_work_33 rfl (lv_at hl 2 rfl) ?_
            refine va_get (D := D) (ci := 5) (v := .ref (ad (38 + Int32.toNatClampNeg (V15 5 5)))) (fs := (xfMachine ad V15 L Z)) (C := RX5) (T := TX5) (N := 15) hx hb hg inX5 hown hK hP 5 xgMachine rfl 5 (by decide) (hg _ w672) (fun _ h9 => h9) rfl dX5_work_34 ?_
            refine g_topv (v := .ref (ad (38 + b))) (rfP (by omega)) ?_
            refine va_getN (D := D) (ci := 0) (v := .ref (ad (70 + b))) (fs := (xfBook ad V15 b)) (C := RX0) (T := TX0) (N := 13) hx hb hg inX0 hown hK hP (38 + b) (xgBook hb2) rfl 10 (by decide) (hnw.use 624 n624 rfl) (fun _ h9 => h9) rfl dX5_work_37 ?_
            refine lv_aload_n hx hb dX5_work_40 rfl (lv_at hl 3 rfl) ?_
            refine va_getN (D := D) (ci := 4) (v := .int (V15 84 gf)) (fs := (xfFrame V15 gf)) (C := RX4) (T := TX4) (N := 19) hx hb hg inX4 hown hK hP (336 + gf) (xgFrame hgf) rfl 17 (by decide) (hnw.use 1206 n1206 rfl) (fun _ h9 => h9) rfl dX5_work_41 ?_
            have il48 : b < 2 := by (first | exact om_f940a4667dd6 hb2 | omega)
            refine va_iald (D := D) (i := (V15 84 gf)) hx hb hK hP (70 + b) (63 + b) (xgcode il48) (xtcode il48) (i_in (a := ((V15 84 gf)).toInt) rfl (by (first | exact om_b03dc4e34d5a r12.2 r21.1 f47 | omega))) dX5_work_44 ?_
            have kc49 := i_clamp (x := (V15 84 gf)) rfl (by (first | exact om_eafa9039069c r21.1 | omega))
            refine g_top (v := V15 48 (8200 * b + (Int32.toNatClampNeg (V15 84 gf)))) (if_pos (by omega)) ?_
            refine g_top (v := (V 48 (8200 * b + (Int32.toNatClampNeg (V15 84 gf))))) (ajV15 48 (8200 * b + (Int32.toNatClampNeg (V15 84 gf))) rfl) ?_
            refine lv_istore (lv' := [(4, .int (V 48 (8200 * b + (Int32.toNatClampNeg (V15 84 gf))))), (3, .int y13), (2, .int y14), (0, .ref (ad 5)), (1, .ref (Z.fa gf))]) hx hb dX5_work_45 hl (by decide) rfl (fun ls hl => ?_)
            refine lv_aload_n hx hb dX5_work_47 rfl (lv_at hl 4 rfl) ?_
            refine lv_dup hx hb dX5_work_48 rfl ?_
            refine va_getN (D := D) (ci := 4) (v := .int (V15 84 gf)) (fs := (xfFrame V15 gf)) (C := RX4) (T := TX4) (N := 19) hx hb hg inX4 hown hK hP (336 + gf) (xgFrame hgf) rfl 17 (by decide) (hnw.use 1206 n1206 rfl) (fun _ h9 => h9) rfl dX5_work_49 ?_
            refine lv_iconst (v := 1) hx hb dX5_work_52 (by decide) ?_
            refine lv_iadd hx hb dX5_work_53 ?_
            refine lv_topi (fun z50 ez50 => ?_)
            have hz50 : z50.toInt = ((V15 84 gf)).toInt + 1 := i_add ez50 rfl (by decide) (by (first | exact om_f150dd2841b6 r12.2 r21.1 f47 | omega))
            refine va_putN (D := D) (ci := 4) (v := .int z50) (ty := tyX4 17) (fs := (xfFrame V15 gf)) (C := RX4) (T := TX4) (N := 19) hx hb hg inX4 tyX4 tyX4_ok nmX4 hown hK hP hD hS (336 + gf) (xgFrame hgf) rfl 17 (by decide) (hnw.use 1206 n1206 rfl) (fun _ h9 => h9) rfl (tyX4_ok 17 (by decide)) rfl rfl (Nat.le_of_ble_eq_true rfl) dX5_work_54 (fun H locs hP hD hS => ?_)
            obtain ⟨V51, hV51⟩ : ∃ z, z = up2 V15 84 gf z50 := ⟨_, rfl⟩
            have ew52 : (xw ad kk V15 L Z).set (336 + gf) ((Z.fa gf), .inr (4, (xfFrame V15 gf).set 17 (.int z50))) = xw ad kk V51 L Z := by rw [hV51]; exact xpFrame_at hgf
            have hP : va_P D vwCl (xw ad kk V51 L Z) H := by rw [← ew52]; exact hP
            have hD : va_D A (xw ad kk V51 L Z) := by rw [← ew52]; exact hD
            have hMV51 : rgd bX V51 := hMV15.put hV51 (show 0 ≤ z50.toInt ∧ z50.toInt ≤ 2147483647 from by (first | exact om_e35dbd57c2e4 r12.2 r21.1 f47 hz50 | omega))
            have agV51 : agr [(5, 6), (5, 7), (5, 9), (5, 10), (5, 11), (5, 12), (5, 13), (5, 14)] [39, 67, 68, 69, 70, 71, 72, 73, 74, 75, 76, 77, 78, 79, 80, 81, 82, 83, 84, 85] V V51 := agV15.up hV51 rfl
            have kat := i_clamp (x := V15 84 gf) rfl (by (first | exact om_eafa9039069c r21.1 | omega))
            have pq53 : (V15 48 (8200 * b + (Int32.toNatClampNeg (V15 84 gf)))).toInt = ((V 48 (8200 * b + (Int32.toNatClampNeg (V15 84 gf))))).toInt := congrArg Int32.toInt (ajV15 48 (8200 * b + (Int32.toNatClampNeg (V15 84 gf))) rfl)
            have hbd : (bdp V15 b (Int32.toNatClampNeg (V15 84 gf))).1 = true := by have q := ft.resolve_left (by omega); rw [show (V15 84 gf).toInt.toNat = (Int32.toNatClampNeg (V15 84 gf)) from by omega] at q; exact q
            have hco := mup.2.2.1.2 (Int32.toNatClampNeg (V15 84 gf)) (by omega) hbd
            have rwx9 : RW (up2 V51 84 gf (V15 84 gf)) gB (m2, ga, f2 :: gr) := by rw [up2_bk hV51]; exact rw9
            have op7 : (V 48 (8200 * b + (Int32.toNatClampNeg (V15 84 gf)))).toInt = (V51 48 (8200 * b + (Int32.toNatClampNeg (V15 84 gf)))).toInt := (congrArg Int32.toInt ((up2_o hV51 (by decide)).trans (ajV15 48 (8200 * b + (Int32.toNatClampNeg (V15 84 gf))) rfl))).symm
            have pq54 : (V51 84 gf).toInt = z50.toInt := congrArg Int32.toInt (up2_s hV51)
            refine lv_iload hx hb dX5_work_57 (lv_at hl 0 rfl) ?_
            refine lv_bipush (v := 10) hx hb dX5_work_59 (by decide) ?_
            refine lv_icmp_lt (tgt := 75) hx hb dX5_work_61 (by decide) (fun c55 => ?_) (fun c55 => ?_)
            · skip
              have f56 : ((V 48 (8200 * b + (Int32.toNatClampNeg (V15 84 gf))))).toInt < 10 := b_lt rfl (by decide) c55
              have atn : (V15 42 b).toInt ≤ z50.toInt ∨ (bdp V15 b z50.toInt.toNat).1 = true := Or.inr (by rw [show z50.toInt.toNat = (Int32.toNatClampNeg (V15 84 gf)) + 1 from by omega]; exact cd_lo hbd (by omega))
              refine lv_iload hx hb dX5_work_75 (lv_at hl 0 rfl) ?_
              refine lv_iconst (v := 5) hx hb dX5_work_77 (by decide) ?_
              refine lv_icmp_lt (tgt := 105) hx hb dX5_work_78 (by decide) (fun c57 => ?_) (fun c57 => ?_)
              · skip
                have f58 : ((V 48 (8200 * b + (Int32.toNatClampNeg (V15 84 gf))))).toInt < 5 := b_lt rfl (by decide) c57
                refine lv_aload_n hx hb dX5_work_105 rfl (lv_at hl 3 rfl) ?_
                refine lv_aload_n hx hb dX5_work_106 rfl (lv_at hl 4 rfl) ?_
                refine lv_iload hx hb dX5_work_107 (lv_at hl 0 rfl) ?_
                have pq59 : (V51 5 6).toInt = ((V15 5 6)).toInt := congrArg Int32.toInt (up2_o hV51 (by decide))
                have pq60 : (V51 67 gf).toInt = ((V15 67 gf)).toInt := congrArg Int32.toInt (up2_o hV51 (by decide))
                have pq61 : (V51 68 gf).toInt = ((V15 68 gf)).toInt := congrArg Int32.toInt (up2_o hV51 (by decide))
                have me62 : ME V15 V51 gf := (ME.up ME.rf hV51 (Or.inl ⟨by decide, by decide, Nat.le_refl _⟩))
                have pq63 : (V51 70 gf).toInt = ((V15 70 gf)).toInt := congrArg Int32.toInt (up2_o hV51 (by decide))
                have pq64 : (V51 71 gf).toInt = ((V15 71 gf)).toInt := congrArg Int32.toInt (up2_o hV51 (by decide))
                have pq65 : (V51 75 gf).toInt = ((V15 75 gf)).toInt := congrArg Int32.toInt (up2_o hV51 (by decide))
                have pq66 : (V51 76 gf).toInt = ((V15 76 gf)).toInt := congrArg Int32.toInt (up2_o hV51 (by decide))
                have pq67 : (V51 80 gf).toInt = ((V15 80 gf)).toInt := congrArg Int32.toInt (up2_o hV51 (by decide))
                have pq68 : (V51 5 8).toInt = ((V 5 8)).toInt := congrArg Int32.toInt ((up2_o hV51 (by decide)).trans (ajV15 5 8 rfl))
                have pq69 : (V51 5 9).toInt = ((V15 5 9)).toInt := congrArg Int32.toInt (up2_o hV51 (by decide))
                have pq70 : (V51 3 13).toInt = ((V 3 13)).toInt := congrArg Int32.toInt ((up2_o hV51 (by decide)).trans (ajV15 3 13 rfl))
                have pq71 : (V51 43 (5 * b + 2)).toInt = ((V 43 (5 * b + 2))).toInt := congrArg Int32.toInt ((up2_o hV51 (by decide)).trans (ajV15 43 (5 * b + 2) rfl))
                have pq72 : (V51 42 b).toInt = ((V 42 b)).toInt := congrArg Int32.toInt ((up2_o hV51 (by decide)).trans (ajV15 42 b rfl))
                have pq73 : (V51 41 b).toInt = ((V 41 b)).toInt := congrArg Int32.toInt ((up2_o hV51 (by decide)).trans (ajV15 41 b rfl))
                have af75 : (V51 42 b).toInt ≤ (V51 84 gf).toInt ∨ (bdp V51 b (V51 84 gf).toInt.toNat).1 = true := by rw [(up2_s hV51), me62.1.bd, me62.1 42 b (by decide) (by decide)]; exact atn
                have mo74 : MO V51 Z b gf True True True := MO.ch xlp16_0 me62 (up2_o hV51 (by decide)) (up2_o hV51 (by decide)) (fun _ => Or.inl (by omega)) (fun x h => FK.k4 (by omega) (by omega) (by omega) af75 (by omega) (fun hph => absurd hph (by omega)))
                have bc76 : BKc V51 b gB := BKc.b4 bc (agr.b4 (show agr [(5, 6), (5, 7), (5, 9), (5, 10), (5, 11), (5, 12), (5, 13), (5, 14)] [39, 67, 68, 69, 70, 71, 72, 73, 74, 75, 76, 77, 78, 79, 80, 81, 82, 83, 84, 85] V V51 from (agr.up (agr.tr agr.rf ajV15 (by decide) (by decide)) hV51 rfl)) (by decide))
                refine W.know (fun k78 k79 => ?_)
                obtain ⟨Hk77, hHk77⟩ : ∃ z, z = H := ⟨_, rfl⟩
                have k78 : Hk77.size ≤ s.heap.size + (zcc Z - zcc Z) := by rw [hHk77]; exact k78
                have k79 : tot Hk77 ≤ tot s.heap + (zss Z - zss Z) := by rw [hHk77]; exact k79
                refine gZ_int (gA_runV (As := [.ref (Z.fa gf), .int (V 48 (8200 * b + (Int32.toNatClampNeg (V15 84 gf))))]) (rest := []) (ci := 5) (q0 := 5) hx hb hml hown hg hP hD hK hS hA hnw hgk (x_worksAlone9 l D ks H.size ad kk V51 L Z (V 48 (8200 * b + (Int32.toNatClampNeg (V15 84 gf)))) (b) (gf) (gB) (m2) (ga) (f2) (gr) ((V15 84 gf)) hMV51 (show b < 2 from by (first | exact om_f940a4667dd6 hb2 | omega)) (show gf < Z.nf from by (first | exact om_8c5722e49bb1 hgf | omega)) mo74 (show (gf : Int) + 1 = (V51 5 6).toInt from by (first | exact om_6e5bbaaa0e03 xlp16_1 pq59 | omega)) (show (V51 67 gf).toInt = 4 from by (first | exact om_ac6651f4ff0c xlp16_2 pq60 | omega)) (show (V51 68 gf).toInt = 0 from by (first | exact om_36161e850215 xlp16_3 pq61 | omega)) rwx9 bc76 (GOs.sf go2) (show (V51 84 gf).toInt = (V15 84 gf).toInt + 1 from by (first | exact om_689eeacb6d53 hz50 pq54 | omega)) (show 0 ≤ (V15 84 gf).toInt from by (first | exact om_eafa9039069c r21.1 | omega)) op7 (show ((V 48 (8200 * b + (Int32.toNatClampNeg (V15 84 gf))))).toInt ≤ 4 from by (first | exact om_5a91d6933965 f58 | omega))) w1489 w1491 w77 w171 w1492 rfl xgMachine hdV_yX5_worksAlone ⟨Nat.le_of_ble_eq_true rfl, Nat.le_of_ble_eq_true rfl⟩ rfl hl.1 rfl (Nat.le_of_ble_eq_true rfl) dX5_work_109 ⟨z1 zoZ.1, z1 zoZ.2.1⟩) hD hS hA (fun z80 u81 H locs w82 hP hD hK hS y83 y84 => ?_)
                obtain ⟨V85, L86, Z87⟩ := u81
                obtain ⟨hMV85, ajV85, axL86, zlZ87, rgz80, t89, t90, t91, t92, t93⟩ := w82
                have axL86 : L = L86 := Eq.symm axL86
                subst axL86
                replace hP : va_P D vwCl (xw ad kk V85 L Z87) H := hP
                replace hD : va_D A (xw ad kk V85 L Z87) := hD
                replace hK : va_K D vwCl (xty kk Z87) s := hK
                replace hMV85 : rgd bX V85 := hMV85
                replace ajV85 : agr [(5, 6), (5, 7), (5, 9), (5, 10), (5, 13), (5, 14)] [39, 67, 68, 69, 70, 71, 72, 73, 74, 75, 76, 77, 78, 79, 80, 81, 82, 83, 84, 85] V51 V85 := ajV85
                have agV85 : agr [(5, 6), (5, 7), (5, 9), (5, 10), (5, 11), (5, 12), (5, 13), (5, 14)] [39, 67, 68, 69, 70, 71, 72, 73, 74, 75, 76, 77, 78, 79, 80, 81, 82, 83, 84, 85] V V85 := agV51.tr ajV85 (by decide) (by decide)
                replace zlZ87 : ZL Z Z87 := zlZ87
                have zoZ87 : ZL Z Z87 := ZL.tr zoZ zlZ87
                have ziZ87 := zlZ87.1
                have zjZ87 := zlZ87.2.1
                have zkZ87 := zlZ87.2.2.1
                have zmZ87 := zoZ87.1
                have znZ87 := zoZ87.2.1
                have zpZ_Z87 := zoZ.1
                have zqZ_Z87 := zoZ.2.1
                have y83 : H.size ≤ Hk77.size + (zcc Z - zcc Z87) := by rw [hHk77]; exact y83
                have y84 : tot H ≤ tot Hk77 + (zss Z - zss Z87) := by rw [hHk77]; exact y84
                refine W.tight (k := zcc Z - zcc Z87) (n := zss Z - zss Z87) (by first | exact tg9 y83 k78 zlZ87.1 zoZ.1 | omega) (by first | exact tg9 y84 k79 zlZ87.2.1 zoZ.2.1 | omega) ?_
                have hl : lv_has ls 6 [(4, .int (V 48 (8200 * b + (Int32.toNatClampNeg (V15 84 gf))))), (3, .int y13), (2, .int y14), (0, .ref (ad 5)), (1, .ref (Z87.fa gf))] := by rw [zlZ87.2.2.2.2 gf hgf]; exact hl
                replace rgz80 : 0 ≤ z80.toInt ∧ z80.toInt ≤ 1 := rgz80
                replace t89 : Imp (z80.toInt = 1) (MO V85 Z87 b gf True True True) := t89
                replace t90 : Imp (z80.toInt = 0) (MJ V85 Z87 b) := t90
                replace t91 : Imp (z80.toInt = 1) ((V85 5 6).toInt = (V51 5 6).toInt ∧ (V85 67 gf).toInt = 4 ∧ (V85 68 gf).toInt = 0) := t91
                replace t92 : Imp (z80.toInt = 1) (Z87 = Z) := t92
                replace t93 : (z80.toInt = 1 ∧ ∃ mz8 fz8, stM gB (m2, ga, f2 :: gr) = (mz8, ga, fz8 :: gr) ∧ RW V85 gB (mz8, ga, fz8 :: gr)) ∨ (z80.toInt = 0 ∧ RW V85 gB (stM gB (m2, ga, f2 :: gr))) := t93
                have r94 : 0 ≤ ((V85 5 6)).toInt ∧ ((V85 5 6)).toInt ≤ 400 := hMV85 5 6
                refine lv_istore_n (lv' := [(2, .int z80), (4, .int (V 48 (8200 * b + (Int32.toNatClampNeg (V15 84 gf))))), (3, .int y13), (0, .ref (ad 5)), (1, .ref (Z87.fa gf))]) hx hb dX5_work_112 rfl hl (by decide) rfl (fun ls hl => ?_)
                by_cases hr0 : z80.toInt = 0
                · skip
                  obtain ⟨z95, ez95⟩ : ∃ y : Int32, y = y13 + 1 := ⟨_, rfl⟩
                  have hz95 : z95.toInt = y13.toInt + 1 := i_add ez95 rfl (by decide) (by (first | exact om_f150dd2841b6 r12.2 klp16_0.1 f40 | omega))
                  refine lv_iinc (v := z95) (lv' := [(3, .int z95), (2, .int z80), (4, .int (V 48 (8200 * b + (Int32.toNatClampNeg (V15 84 gf))))), (0, .ref (ad 5)), (1, .ref (Z87.fa gf))]) hx hb dX5_work_113 hl (k := 2) rfl (by rw [ez95]; rfl) (by decide) rfl (fun ls hl => ?_)
                  refine lv_goto (tgt := 4) hx hb dX5_work_116 (by decide) ?_
                  refine lv_iload_n hx hb dX5_work_4 rfl (lv_at hl 1 rfl) ?_
                  refine lv_if_eq (tgt := 119) hx hb dX5_work_5 (by decide) (fun c96 => ?_) (fun c96 => ?_)
                  · skip
                    have f97 : z80.toInt = 0 := b_eq rfl (by decide) c96
                    refine W.know (fun kr1 kr2 => ?_)
                    refine W.widen (k := zcc Z) (n := zss Z) (Nat.sub_le _ _) (Nat.sub_le _ _) ?_
                    exact W.vret hx hb hr (fun t ht hW => ⟨⟨(V85, L, Z87), rfl, ⟨hMV85, agV85, rfl, zoZ87, (Imp.go t90 (by (first | exact om_b1799fcf2d63 rgz80.1 f97 | omega))), ⟨n9 + 1, by omega, (by rw [rnM_add, er9]; exact (t93.resolve_left (fun h9 => by have h8 := h9.1; omega)).2)⟩⟩, ⟨by rw [ht]; exact hP, va_K.moved hW.alike hK, hD⟩, by rw [ht]; exact kr1, by rw [ht]; exact kr2⟩, hS.F ht⟩) hS.2.2 dX5_work_119
                  · skip
                    have f98 : z80.toInt ≠ 0 := b_neq rfl (by decide) c96
                    exfalso; first | omega | ((try (have i_t91 := Imp.go t91 (by omega))); omega)
                · skip
                  have hr1 : z80.toInt = 1 := by omega
                  have ezz : Z87 = Z := Imp.go t92 hr1
                  have hP : va_P D vwCl (xw ad kk V85 L Z) H := by rw [← ezz]; exact hP
                  have hD : va_D A (xw ad kk V85 L Z) := by rw [← ezz]; exact hD
                  have hK : va_K D vwCl (xty kk Z) s := by rw [← ezz]; exact hK
                  have hl : lv_has ls 6 [(2, .int z80), (4, .int (V 48 (8200 * b + (Int32.toNatClampNeg (V15 84 gf))))), (3, .int y13), (0, .ref (ad 5)), (1, .ref (Z.fa gf))] := by rw [← ezz]; exact hl
                  rw [ezz]
                  have mo99 : MO V85 Z b gf True True True := by rw [← ezz]; exact Imp.go t89 hr1
                  have hpk := Imp.go t91 hr1
                  obtain ⟨z100, ez100⟩ : ∃ y : Int32, y = y13 + 1 := ⟨_, rfl⟩
                  have hz100 : z100.toInt = y13.toInt + 1 := i_add ez100 rfl (by decide) (by (first | exact om_f150dd2841b6 r12.2 klp16_0.1 f40 | omega))
                  refine lv_iinc (v := z100) (lv' := [(3, .int z100), (2, .int z80), (4, .int (V 48 (8200 * b + (Int32.toNatClampNeg (V15 84 gf))))), (0, .ref (ad 5)), (1, .ref (Z.fa gf))]) hx hb dX5_work_113 hl (k := 2) rfl (by rw [ez100]; rfl) (by decide) rfl (fun ls hl => ?_)
                  refine lv_goto (tgt := 4) hx hb dX5_work_116 (by decide) ?_
                  exact ihlp16 z100 z80 V85 H locs ls (by first | exact om_4c7236201e99 r12.2 klp16_0.1 f40 hz100 | first | omega | ((try (have i_t91 := Imp.go t91 (by omega))); omega)) (by first | exact om_e6bad570a1f1 rgz80.2 hr1 | first | omega | ((try (have i_t91 := Imp.go t91 (by omega))); omega)) mo99 (show (gf : Int) + 1 = (V85 5 6).toInt from by first | exact om_697b823fa352 xlp16_1 pq59 ((Imp.go t91 (hr1)).1) | first | omega | ((try (have i_t91 := Imp.go t91 (by omega))); omega)) (show (V85 67 gf).toInt = 4 from by first | exact om_c88e7ce0b8a2 ((Imp.go t91 (hr1)).2.1) | first | omega | ((try (have i_t91 := Imp.go t91 (by omega))); omega)) (show (V85 68 gf).toInt = 0 from by first | exact om_b66ba74381d5 ((Imp.go t91 (hr1)).2.2) | first | omega | ((try (have i_t91 := Imp.go t91 (by omega))); omega)) (by obtain ⟨m3, f3, e3, r3⟩ := (t93.resolve_right (fun h9 => by have h8 := h9.1; omega)).2; exact ⟨n9 + 1, m3, f3, (by rw [rnM_add, er9]; exact e3), r3, (by rw [← e3]; exact GOs.nx go2), Or.inr (by omega)⟩) (by first | exact om_5e93b663c12e hn hz100 | first | omega | ((try (have i_t91 := Imp.go t91 (by omega))); omega)) (agr.tr (agr.up (agr.tr agr.rf ajV15 (by decide) (by decide)) hV51 rfl) ajV85 (by decide) (by decide)) hMV85 hP hD hS (lv_sub hl [0, 1, 3, 4] rfl)
              · skip
                have f101 : 5 ≤ ((V 48 (8200 * b + (Int32.toNatClampNeg (V15 84 gf))))).toInt := b_nlt rfl (by decide) c57
                refine lv_aload_n hx hb dX5_work_81 rfl (lv_at hl 3 rfl) ?_
                refine gA_int (gA_runV (As := []) (rest := []) (ci := 5) (q0 := 5) hx hb hml hown hg hP hD hK hS hA hnw hgk (x_pull9 l D ks H.size ad kk V51 L Z  hMV51 ) w1482 w1484 w76 w171 w1485 rfl xgMachine hdV_yX5_pull ⟨Nat.le_of_ble_eq_true rfl, Nat.le_of_ble_eq_true rfl⟩ rfl hl.1 rfl (Nat.le_of_ble_eq_true rfl) dX5_work_82 ⟨z0, z0⟩) hP hD hK hS hA (fun z102 u103 H locs w104 hP hD hK hS => ?_)
                obtain ⟨V106, L107⟩ := u103
                obtain ⟨hMV106, ajV106, axL107, t105⟩ := w104
                have axL107 : L = L107 := Eq.symm axL107
                subst axL107
                replace hP : va_P D vwCl (xw ad kk V106 L Z) H := hP
                replace hD : va_D A (xw ad kk V106 L Z) := hD
                replace hMV106 : rgd bX V106 := hMV106
                replace ajV106 : agr [(5, 7)] [] V51 V106 := ajV106
                have agV106 : agr [(5, 6), (5, 7), (5, 9), (5, 10), (5, 11), (5, 12), (5, 13), (5, 14)] [39, 67, 68, 69, 70, 71, 72, 73, 74, 75, 76, 77, 78, 79, 80, 81, 82, 83, 84, 85] V V106 := agV51.tr ajV106 (by decide) (by decide)
                replace t105 : ((0 < (V51 5 7).toInt ∧ z102 = V51 39 (Int32.toNatClampNeg (V51 5 7 - 1))) ∧ V106 = (up2 V51 5 7 (V51 5 7 - 1))) ∨ (((V51 5 7).toInt ≤ 0 ∧ z102 = 0) ∧ V106 = V51) := t105
                rcases t105 with ⟨hc108, hw109⟩ | ⟨hc110, hw111⟩
                · skip
                  have pq113 : (V51 5 7).toInt = ((V15 5 7)).toInt := congrArg Int32.toInt (up2_o hV51 (by decide))
                  have r114 : 0 ≤ ((V15 5 7)).toInt ∧ ((V15 5 7)).toInt ≤ 2048 := hMV15 5 7
                  obtain ⟨z112, ez112⟩ : ∃ y : Int32, y = V51 5 7 - 1 := ⟨_, rfl⟩
                  have hz112 : z112.toInt = (V51 5 7).toInt - 1 := i_sub ez112 rfl (by decide) (by (first | exact om_dc2ce737465e pq113 r114.1 r114.2 | omega))
                  have hV106 : V106 = up2 V51 5 7 z112 := by rw [hw109, ez112]
                  refine lv_istore (lv' := [(5, .int z102), (4, .int (V 48 (8200 * b + (Int32.toNatClampNeg (V15 84 gf))))), (3, .int y13), (2, .int y14), (0, .ref (ad 5)), (1, .ref (Z.fa gf))]) hx hb dX5_work_85 hl (by decide) rfl (fun ls hl => ?_)
                  refine lv_aload_n hx hb dX5_work_87 rfl (lv_at hl 4 rfl) ?_
                  refine lv_iload hx hb dX5_work_88 (lv_at hl 1 rfl) ?_
                  refine lv_aload_n hx hb dX5_work_90 rfl (lv_at hl 4 rfl) ?_
                  refine gA_int (gA_runV (As := []) (rest := [.int (V 48 (8200 * b + (Int32.toNatClampNeg (V15 84 gf)))), .ref (ad 5)]) (ci := 5) (q0 := 5) hx hb hml hown hg hP hD hK hS hA hnw hgk (x_pull9 l D ks H.size ad kk V106 L Z  hMV106 ) w1482 w1484 w76 w171 w1485 rfl xgMachine hdV_yX5_pull ⟨Nat.le_of_ble_eq_true rfl, Nat.le_of_ble_eq_true rfl⟩ rfl hl.1 rfl (Nat.le_of_ble_eq_true rfl) dX5_work_91 ⟨z0, z0⟩) hP hD hK hS hA (fun z115 u116 H locs w117 hP hD hK hS => ?_)
                  obtain ⟨V119, L120⟩ := u116
                  obtain ⟨hMV119, ajV119, axL120, t118⟩ := w117
                  have axL120 : L = L120 := Eq.symm axL120
                  subst axL120
                  replace hP : va_P D vwCl (xw ad kk V119 L Z) H := hP
                  replace hD : va_D A (xw ad kk V119 L Z) := hD
                  replace hMV119 : rgd bX V119 := hMV119
                  replace ajV119 : agr [(5, 7)] [] V106 V119 := ajV119
                  have agV119 : agr [(5, 6), (5, 7), (5, 9), (5, 10), (5, 11), (5, 12), (5, 13), (5, 14)] [39, 67, 68, 69, 70, 71, 72, 73, 74, 75, 76, 77, 78, 79, 80, 81, 82, 83, 84, 85] V V119 := agV106.tr ajV119 (by decide) (by decide)
                  replace t118 : ((0 < (V106 5 7).toInt ∧ z115 = V106 39 (Int32.toNatClampNeg (V106 5 7 - 1))) ∧ V119 = (up2 V106 5 7 (V106 5 7 - 1))) ∨ (((V106 5 7).toInt ≤ 0 ∧ z115 = 0) ∧ V119 = V106) := t118
                  rcases t118 with ⟨hc121, hw122⟩ | ⟨hc123, hw124⟩
                  · skip
                    have pq126 : (V106 5 7).toInt = z112.toInt := congrArg Int32.toInt (up2_s hV106)
                    obtain ⟨z125, ez125⟩ : ∃ y : Int32, y = V106 5 7 - 1 := ⟨_, rfl⟩
                    have hz125 : z125.toInt = (V106 5 7).toInt - 1 := i_sub ez125 rfl (by decide) (by (first | exact om_9abcaebda219 pq113 r114.1 r114.2 hz112 pq126 | omega))
                    have hV119 : V119 = up2 V106 5 7 z125 := by rw [hw122, ez125]
                    refine lv_iload hx hb dX5_work_94 (lv_at hl 0 rfl) ?_
                    refine gE_int (g_runS (As := [.int (V 48 (8200 * b + (Int32.toNatClampNeg (V15 84 gf)))), .int z115, .int z102]) (rest := [.ref (ad 5)]) (wc := []) (tc := []) hx hb hml hown hg gw_self hP hD hK hS hA hnw hgk [] [] (by decide) rfl rfl (x_compute9 l D ks H.size (V 48 (8200 * b + (Int32.toNatClampNeg (V15 84 gf)))) z115 z102 ) w1486 w1487 w171 w1488 hdS_yX5_compute ⟨Nat.le_of_ble_eq_true rfl, Nat.le_of_ble_eq_true rfl⟩ rfl hl.1 rfl (Nat.le_of_ble_eq_true rfl) dX5_work_96 ⟨z0, z0⟩) hP hD hK hS hA (fun z127 u128 H locs w129 hP hD hK hS => ?_)
                    have t130 := w129
                    replace t130 : (((V 48 (8200 * b + (Int32.toNatClampNeg (V15 84 gf))))).toInt = 5 → z127 = z115 + z102) ∧ (((V 48 (8200 * b + (Int32.toNatClampNeg (V15 84 gf))))).toInt = 6 → z127 = z115 - z102) ∧ (((V 48 (8200 * b + (Int32.toNatClampNeg (V15 84 gf))))).toInt = 7 → z127 = z115 * z102) ∧ (((V 48 (8200 * b + (Int32.toNatClampNeg (V15 84 gf))))).toInt = 8 → z127 = (if z115.toInt < z102.toInt then 1 else 0)) ∧ (9 ≤ ((V 48 (8200 * b + (Int32.toNatClampNeg (V15 84 gf))))).toInt → z127 = (if z115 = z102 then 1 else 0)) := t130
                    refine gA_void (gA_runV (As := [.int z127]) (rest := []) (ci := 5) (q0 := 5) hx hb hml hown hg hP hD hK hS hA hnw hgk (x_put9 l D ks H.size ad kk V119 L Z z127 hMV119 ) w1466 w1468 w72 w171 w1469 rfl xgMachine hdV_yX5_put ⟨Nat.le_of_ble_eq_true rfl, Nat.le_of_ble_eq_true rfl⟩ rfl hl.1 rfl (Nat.le_of_ble_eq_true rfl) dX5_work_99 ⟨z0, z0⟩) hP hD hK hS hA (fun u132 H locs w133 hP hD hK hS => ?_)
                    obtain ⟨V135, L136⟩ := u132
                    obtain ⟨hMV135, ajV135, axL136, t134⟩ := w133
                    have axL136 : L = L136 := Eq.symm axL136
                    subst axL136
                    replace hP : va_P D vwCl (xw ad kk V135 L Z) H := hP
                    replace hD : va_D A (xw ad kk V135 L Z) := hD
                    replace hMV135 : rgd bX V135 := hMV135
                    replace ajV135 : agr [(5, 7)] [39] V119 V135 := ajV135
                    have agV135 : agr [(5, 6), (5, 7), (5, 9), (5, 10), (5, 11), (5, 12), (5, 13), (5, 14)] [39, 67, 68, 69, 70, 71, 72, 73, 74, 75, 76, 77, 78, 79, 80, 81, 82, 83, 84, 85] V V135 := agV119.tr ajV135 (by decide) (by decide)
                    replace t134 : (((V119 5 7).toInt < 2048) ∧ V135 = (up2 (up2 V119 5 7 (V119 5 7 + 1)) 39 (Int32.toNatClampNeg (V119 5 7)) z127)) ∨ ((2048 ≤ (V119 5 7).toInt) ∧ V135 = V119) := t134
                    rcases t134 with ⟨hc137, hw138⟩ | ⟨hc139, hw140⟩
                    · skip
                      have pq142 : (V119 5 7).toInt = z125.toInt := congrArg Int32.toInt (up2_s hV119)
                      obtain ⟨z141, ez141⟩ : ∃ y : Int32, y = V119 5 7 + 1 := ⟨_, rfl⟩
                      have hz141 : z141.toInt = (V119 5 7).toInt + 1 := i_add ez141 rfl (by decide) (by (first | exact om_0064dfce3c7a pq113 r114.1 r114.2 hz112 pq126 hz125 pq142 | omega))
                      obtain ⟨V143, hV143⟩ : ∃ z, z = up2 V119 5 7 z141 := ⟨_, rfl⟩
                      have hV135 : V135 = up2 V143 39 (Int32.toNatClampNeg (V119 5 7)) z127 := by rw [hw138, hV143, ez141]
                      refine lv_goto (tgt := 113) hx hb dX5_work_102 (by decide) ?_
                      obtain ⟨z144, ez144⟩ : ∃ y : Int32, y = y13 + 1 := ⟨_, rfl⟩
                      have hz144 : z144.toInt = y13.toInt + 1 := i_add ez144 rfl (by decide) (by (first | exact om_f150dd2841b6 r12.2 klp16_0.1 f40 | omega))
                      refine lv_iinc (v := z144) (lv' := [(3, .int z144), (5, .int z102), (4, .int (V 48 (8200 * b + (Int32.toNatClampNeg (V15 84 gf))))), (2, .int y14), (0, .ref (ad 5)), (1, .ref (Z.fa gf))]) hx hb dX5_work_113 hl (k := 2) rfl (by rw [ez144]; rfl) (by decide) rfl (fun ls hl => ?_)
                      refine lv_goto (tgt := 4) hx hb dX5_work_116 (by decide) ?_
                      have pq145 : (V135 5 6).toInt = ((V15 5 6)).toInt := congrArg Int32.toInt ((up2_o hV135 (by decide)).trans ((up2_k hV143 (by decide)).trans ((up2_k hV119 (by decide)).trans ((up2_k hV106 (by decide)).trans (up2_o hV51 (by decide))))))
                      have pq146 : (V135 67 gf).toInt = ((V15 67 gf)).toInt := congrArg Int32.toInt ((up2_o hV135 (by decide)).trans ((up2_o hV143 (by decide)).trans ((up2_o hV119 (by decide)).trans ((up2_o hV106 (by decide)).trans (up2_o hV51 (by decide))))))
                      have pq147 : (V135 68 gf).toInt = ((V15 68 gf)).toInt := congrArg Int32.toInt ((up2_o hV135 (by decide)).trans ((up2_o hV143 (by decide)).trans ((up2_o hV119 (by decide)).trans ((up2_o hV106 (by decide)).trans (up2_o hV51 (by decide))))))
                      have me148 : ME V15 V135 gf := (ME.up (ME.up (ME.up (ME.up (ME.up ME.rf hV51 (Or.inl ⟨by decide, by decide, Nat.le_refl _⟩)) hV106 (Or.inr (by omega))) hV119 (Or.inr (by omega))) hV143 (Or.inr (by omega))) hV135 (Or.inr (by omega)))
                      have pq149 : (V135 70 gf).toInt = ((V15 70 gf)).toInt := congrArg Int32.toInt ((up2_o hV135 (by decide)).trans ((up2_o hV143 (by decide)).trans ((up2_o hV119 (by decide)).trans ((up2_o hV106 (by decide)).trans (up2_o hV51 (by decide))))))
                      have pq150 : (V135 71 gf).toInt = ((V15 71 gf)).toInt := congrArg Int32.toInt ((up2_o hV135 (by decide)).trans ((up2_o hV143 (by decide)).trans ((up2_o hV119 (by decide)).trans ((up2_o hV106 (by decide)).trans (up2_o hV51 (by decide))))))
                      have pq151 : (V135 75 gf).toInt = ((V15 75 gf)).toInt := congrArg Int32.toInt ((up2_o hV135 (by decide)).trans ((up2_o hV143 (by decide)).trans ((up2_o hV119 (by decide)).trans ((up2_o hV106 (by decide)).trans (up2_o hV51 (by decide))))))
                      have pq152 : (V135 76 gf).toInt = ((V15 76 gf)).toInt := congrArg Int32.toInt ((up2_o hV135 (by decide)).trans ((up2_o hV143 (by decide)).trans ((up2_o hV119 (by decide)).trans ((up2_o hV106 (by decide)).trans (up2_o hV51 (by decide))))))
                      have pq153 : (V135 80 gf).toInt = ((V15 80 gf)).toInt := congrArg Int32.toInt ((up2_o hV135 (by decide)).trans ((up2_o hV143 (by decide)).trans ((up2_o hV119 (by decide)).trans ((up2_o hV106 (by decide)).trans (up2_o hV51 (by decide))))))
                      have pq154 : (V135 84 gf).toInt = z50.toInt := congrArg Int32.toInt ((up2_o hV135 (by decide)).trans ((up2_o hV143 (by decide)).trans ((up2_o hV119 (by decide)).trans ((up2_o hV106 (by decide)).trans (up2_s hV51)))))
                      have pq155 : (V135 5 8).toInt = ((V 5 8)).toInt := congrArg Int32.toInt ((up2_o hV135 (by decide)).trans ((up2_k hV143 (by decide)).trans ((up2_k hV119 (by decide)).trans ((up2_k hV106 (by decide)).trans ((up2_o hV51 (by decide)).trans (ajV15 5 8 rfl))))))
                      have pq156 : (V135 5 9).toInt = ((V15 5 9)).toInt := congrArg Int32.toInt ((up2_o hV135 (by decide)).trans ((up2_k hV143 (by decide)).trans ((up2_k hV119 (by decide)).trans ((up2_k hV106 (by decide)).trans (up2_o hV51 (by decide))))))
                      have pq157 : (V135 3 13).toInt = ((V 3 13)).toInt := congrArg Int32.toInt ((up2_o hV135 (by decide)).trans ((up2_o hV143 (by decide)).trans ((up2_o hV119 (by decide)).trans ((up2_o hV106 (by decide)).trans ((up2_o hV51 (by decide)).trans (ajV15 3 13 rfl))))))
                      have pq158 : (V135 43 (5 * b + 2)).toInt = ((V 43 (5 * b + 2))).toInt := congrArg Int32.toInt ((up2_o hV135 (by decide)).trans ((up2_o hV143 (by decide)).trans ((up2_o hV119 (by decide)).trans ((up2_o hV106 (by decide)).trans ((up2_o hV51 (by decide)).trans (ajV15 43 (5 * b + 2) rfl))))))
                      have pq159 : (V135 42 b).toInt = ((V 42 b)).toInt := congrArg Int32.toInt ((up2_o hV135 (by decide)).trans ((up2_o hV143 (by decide)).trans ((up2_o hV119 (by decide)).trans ((up2_o hV106 (by decide)).trans ((up2_o hV51 (by decide)).trans (ajV15 42 b rfl))))))
                      have pq160 : (V135 41 b).toInt = ((V 41 b)).toInt := congrArg Int32.toInt ((up2_o hV135 (by decide)).trans ((up2_o hV143 (by decide)).trans ((up2_o hV119 (by decide)).trans ((up2_o hV106 (by decide)).trans ((up2_o hV51 (by decide)).trans (ajV15 41 b rfl))))))
                      have ep163 : V135 84 gf = z50 := ((up2_o hV135 (by decide)).trans ((up2_o hV143 (by decide)).trans ((up2_o hV119 (by decide)).trans ((up2_o hV106 (by decide)).trans (up2_s hV51)))))
                      have af162 : (V135 42 b).toInt ≤ (V135 84 gf).toInt ∨ (bdp V135 b (V135 84 gf).toInt.toNat).1 = true := by rw [ep163, me148.1.bd, me148.1 42 b (by decide) (by decide)]; exact atn
                      have mo161 : MO V135 Z b gf True True True := MO.ch xlp16_0 me148 ((up2_o hV135 (by decide)).trans ((up2_o hV143 (by decide)).trans ((up2_o hV119 (by decide)).trans ((up2_o hV106 (by decide)).trans (up2_o hV51 (by decide)))))) ((up2_o hV135 (by decide)).trans ((up2_o hV143 (by decide)).trans ((up2_o hV119 (by decide)).trans ((up2_o hV106 (by decide)).trans (up2_o hV51 (by decide)))))) (fun _ => Or.inl (by omega)) (fun x h => FK.k4 (by omega) (by omega) (by omega) af162 (by omega) (fun hph => absurd hph (by omega)))
                      have op9 := OQ.op oq9
                      have cd9 := (bc28).1.2 at9.toNat hi9
                      have ka9 : Int32.toNatClampNeg (V15 84 gf) = psz (opf gB.1) at9.toNat := by have h9 := i_clamp (x := V15 84 gf) rfl (by (first | exact om_eafa9039069c r21.1 | omega)); omega
                      have c48 : (V 48 (8200 * b + (Int32.toNatClampNeg (V15 84 gf)))).toInt = enO (opf gB.1 at9.toNat) := by have h9 := cd9.1; rw [← ka9] at h9; exact (congrArg Int32.toInt (ajV15 48 (8200 * b + (Int32.toNatClampNeg (V15 84 gf))) rfl)).symm.trans h9
                      have en9 : 5 ≤ opf gB.1 at9.toNat ∧ opf gB.1 at9.toNat ≤ 9 := enO_59 op9 (by rw [← c48]; omega) (by rw [← c48]; omega)
                      obtain ⟨t8, lp9, q8, oq8⟩ := OQ.i5 oq9 en9
                      obtain ⟨x9, y9, p9, hpe⟩ : ∃ x9 y9 p9, p = x9 :: y9 :: p9 := by rcases p with _ | ⟨x, _ | ⟨y, q⟩⟩; (exact absurd lp9 (by simp)); (exact absurd lp9 (by simp)); exact ⟨x, y, q, rfl⟩
                      have tl9 : ∃ t : Nat, (V15 5 7).toInt = ((t : Nat) : Int) ∧ 2 ≤ t ∧ t ≤ 2000 := by obtain ⟨_, _, _, t, ht, t0, h1, _⟩ := id rw9; have h2 := RWl.tot (show RWl V15 gB (f2 :: gr) t from by obtain ⟨_, _, _, t7, ht7, hl7⟩ := rw9; rw [show t = t7 from by omega]; exact hl7); have h3 : totP (f2 :: gr) ≤ 2000 := (GOs.sf go2).2.1; rw [hfe, hpe] at h1; have h4 : t = t0 + (p9.length + 1 + 1) := h1; exact ⟨t, ht, by omega, by omega⟩
                      obtain ⟨tw9, ht9, tg9, tm9⟩ := tl9
                      obtain ⟨t7, pc0, pc1, pc2, pc3⟩ : ∃ t7 : Nat, tw9 = t7 + 2 ∧ V15 39 (t7 + 1) = x9 ∧ V15 39 t7 = y9 ∧ True := by obtain ⟨_, _, _, t, ht, t0, h1, _, _, h4, _⟩ := rw9; rw [hfe, hpe] at h4; obtain ⟨s1, g1, g2, s2, g3, g4, g5⟩ := h4; exact ⟨s2, by omega, by rw [← g3]; exact g2, g4, trivial⟩
                      have czx0 : Int32.toNatClampNeg (V51 5 7 - 1) = t7 + 1 := by have h9 : (V51 5 7 - 1).toInt = (V51 5 7).toInt - 1 := i_sub rfl rfl (by decide) (by omega); have h8 := i_clamp (x := V51 5 7 - 1) rfl (by omega); omega
                      have zx0 : z102 = x9 := by rw [hc108.2, czx0, (up2_o hV51 (by decide))]; exact pc1
                      have czx1 : Int32.toNatClampNeg (V106 5 7 - 1) = t7 := by have h9 : (V106 5 7 - 1).toInt = (V106 5 7).toInt - 1 := i_sub rfl rfl (by decide) (by omega); have h8 := i_clamp (x := V106 5 7 - 1) rfl (by omega); omega
                      have zx1 : z115 = y9 := by rw [hc121.2, czx1, ((up2_o hV106 (by decide)).trans (up2_o hV51 (by decide)))]; exact pc2
                      have tx9 : (Int32.toNatClampNeg (V119 5 7)) = t7 := by have h9 := i_clamp (x := V119 5 7) rfl (by (first | exact om_d5509f43c940 hc121.1 hz125 pq142 | omega)); omega
                      have cp9 := t130
                      rw [zx0, zx1] at cp9
                      have pq164 : (V135 5 7).toInt = z141.toInt := congrArg Int32.toInt ((up2_o hV135 (by decide)).trans (up2_s hV143))
                      have rw8 := rw9
                      rw [hfe, hpe] at rw8
                      have p84 : psz (opf gB.1) (at9.toNat + 1) = psz (opf gB.1) at9.toNat + 1 := psz_1 (show opf gB.1 at9.toNat ≠ 2 ∧ ¬ (10 ≤ opf gB.1 at9.toNat ∧ opf gB.1 at9.toNat ≤ 14) from by omega)
                      have rc9 : RW V135 gB (m2, ga, Fwork lv o c sc me ps ((at9.toNat + 1 : Nat) : Int) v (z127 :: p9) :: gr) := RW.cmp (val := z127) rw8 (by rw [gl9]; omega) p84 (by omega) (fun j9 hj9 => by rw [show j9 = (Int32.toNatClampNeg (V119 5 7)) from by omega]; exact (up2_s hV135)) (fun j9 hj9 => ((up2_k hV135 (by omega)).trans ((up2_o hV143 (by decide)).trans ((up2_o hV119 (by decide)).trans ((up2_o hV106 (by decide)).trans (up2_o hV51 (by decide))))))) (fun c9 k9 h1 h2 h3 => ((show V135 c9 k9 = V143 c9 k9 from by rw [hV135]; exact up2_pl (by omega)).trans ((show V143 c9 k9 = V119 c9 k9 from by rw [hV143]; exact up2_pl (by omega)).trans ((show V119 c9 k9 = V106 c9 k9 from by rw [hV119]; exact up2_pl (by omega)).trans ((show V106 c9 k9 = V51 c9 k9 from by rw [hV106]; exact up2_pl (by omega)).trans (show V51 c9 k9 = V15 c9 k9 from by rw [hV51]; exact up2_pl (by omega)))))))
                      have sc9 : stM gB (m2, ga, f2 :: gr) = (m2, ga, Fwork lv o c sc me ps ((at9.toNat + 1 : Nat) : Int) v (z127 :: p9) :: gr) := by
                        rw [hfe, hpe]
                        rcases (show opf gB.1 at9.toNat = 5 ∨ opf gB.1 at9.toNat = 6 ∨ opf gB.1 at9.toNat = 7 ∨ opf gB.1 at9.toNat = 8 ∨ opf gB.1 at9.toNat = 9 from by omega) with o9 | o9 | o9 | o9 | o9
                        · rw [st_12.trans (or_5 o9), cp9.2.2.1 (by rw [c48, o9]; decide)]; rfl
                        · rw [st_12.trans (or_6 o9), cp9.1 (by rw [c48, o9]; decide)]; rfl
                        · rw [st_12.trans (or_7 o9), cp9.2.1 (by rw [c48, o9]; decide)]; rfl
                        · rw [st_12.trans (or_8 o9), cp9.2.2.2.1 (by rw [c48, o9]; decide)]; rfl
                        · rw [st_12.trans (or_9 o9), cp9.2.2.2.2 (by rw [c48, o9]; decide)]; rfl
                      exact ihlp16 z144 y14 V135 H locs ls (by (first | exact om_4c7236201e99 r12.2 klp16_0.1 f40 hz144 | omega)) (by (first | exact om_1b1f2d1cff90 klp16_1.1 klp16_1.2 | omega)) mo161 (show (gf : Int) + 1 = (V135 5 6).toInt from by (first | exact om_6e5bbaaa0e03 xlp16_1 pq145 | omega)) (show (V135 67 gf).toInt = 4 from by (first | exact om_ac6651f4ff0c xlp16_2 pq146 | omega)) (show (V135 68 gf).toInt = 0 from by (first | exact om_36161e850215 xlp16_3 pq147 | omega)) ⟨n9 + 1, m2, _, (by rw [rnM_add, er9]; exact sc9), rc9, (by rw [← sc9]; exact GOs.nx go2), Or.inr (by omega)⟩ (by (first | exact om_5e93b663c12e hn hz144 | omega)) (agr.up (agr.up (agr.up (agr.up (agr.up (agr.tr agr.rf ajV15 (by decide) (by decide)) hV51 rfl) hV106 rfl) hV119 rfl) hV143 rfl) hV135 rfl) hMV135 hP hD hS (lv_sub hl [0, 3, 4, 5] rfl)
                    · skip
                      have ajV135 : agr [] [] V119 V135 := by rw [hw140]; exact agr.rf
                      refine lv_goto (tgt := 113) hx hb dX5_work_102 (by decide) ?_
                      obtain ⟨z165, ez165⟩ : ∃ y : Int32, y = y13 + 1 := ⟨_, rfl⟩
                      have hz165 : z165.toInt = y13.toInt + 1 := i_add ez165 rfl (by decide) (by (first | exact om_f150dd2841b6 r12.2 klp16_0.1 f40 | omega))
                      refine lv_iinc (v := z165) (lv' := [(3, .int z165), (5, .int z102), (4, .int (V 48 (8200 * b + (Int32.toNatClampNeg (V15 84 gf))))), (2, .int y14), (0, .ref (ad 5)), (1, .ref (Z.fa gf))]) hx hb dX5_work_113 hl (k := 2) rfl (by rw [ez165]; rfl) (by decide) rfl (fun ls hl => ?_)
                      refine lv_goto (tgt := 4) hx hb dX5_work_116 (by decide) ?_
                      have pq166 : (V135 5 6).toInt = ((V15 5 6)).toInt := congrArg Int32.toInt ((ajV135 5 6 rfl).trans ((up2_k hV119 (by decide)).trans ((up2_k hV106 (by decide)).trans (up2_o hV51 (by decide)))))
                      have pq167 : (V135 67 gf).toInt = ((V15 67 gf)).toInt := congrArg Int32.toInt ((ajV135 67 gf rfl).trans ((up2_o hV119 (by decide)).trans ((up2_o hV106 (by decide)).trans (up2_o hV51 (by decide)))))
                      have pq168 : (V135 68 gf).toInt = ((V15 68 gf)).toInt := congrArg Int32.toInt ((ajV135 68 gf rfl).trans ((up2_o hV119 (by decide)).trans ((up2_o hV106 (by decide)).trans (up2_o hV51 (by decide)))))
                      have me169 : ME V15 V135 gf := (ME.tr (ME.up (ME.up (ME.up ME.rf hV51 (Or.inl ⟨by decide, by decide, Nat.le_refl _⟩)) hV106 (Or.inr (by omega))) hV119 (Or.inr (by omega))) (ME.ag ajV135 (by decide)))
                      have pq170 : (V135 70 gf).toInt = ((V15 70 gf)).toInt := congrArg Int32.toInt ((ajV135 70 gf rfl).trans ((up2_o hV119 (by decide)).trans ((up2_o hV106 (by decide)).trans (up2_o hV51 (by decide)))))
                      have pq171 : (V135 71 gf).toInt = ((V15 71 gf)).toInt := congrArg Int32.toInt ((ajV135 71 gf rfl).trans ((up2_o hV119 (by decide)).trans ((up2_o hV106 (by decide)).trans (up2_o hV51 (by decide)))))
                      have pq172 : (V135 75 gf).toInt = ((V15 75 gf)).toInt := congrArg Int32.toInt ((ajV135 75 gf rfl).trans ((up2_o hV119 (by decide)).trans ((up2_o hV106 (by decide)).trans (up2_o hV51 (by decide)))))
                      have pq173 : (V135 76 gf).toInt = ((V15 76 gf)).toInt := congrArg Int32.toInt ((ajV135 76 gf rfl).trans ((up2_o hV119 (by decide)).trans ((up2_o hV106 (by decide)).trans (up2_o hV51 (by decide)))))
                      have pq174 : (V135 80 gf).toInt = ((V15 80 gf)).toInt := congrArg Int32.toInt ((ajV135 80 gf rfl).trans ((up2_o hV119 (by decide)).trans ((up2_o hV106 (by decide)).trans (up2_o hV51 (by decide)))))
                      have pq175 : (V135 84 gf).toInt = z50.toInt := congrArg Int32.toInt ((ajV135 84 gf rfl).trans ((up2_o hV119 (by decide)).trans ((up2_o hV106 (by decide)).trans (up2_s hV51))))
                      have pq176 : (V135 5 8).toInt = ((V 5 8)).toInt := congrArg Int32.toInt ((ajV135 5 8 rfl).trans ((up2_k hV119 (by decide)).trans ((up2_k hV106 (by decide)).trans ((up2_o hV51 (by decide)).trans (ajV15 5 8 rfl)))))
                      have pq177 : (V135 5 9).toInt = ((V15 5 9)).toInt := congrArg Int32.toInt ((ajV135 5 9 rfl).trans ((up2_k hV119 (by decide)).trans ((up2_k hV106 (by decide)).trans (up2_o hV51 (by decide)))))
                      have pq178 : (V135 3 13).toInt = ((V 3 13)).toInt := congrArg Int32.toInt ((ajV135 3 13 rfl).trans ((up2_o hV119 (by decide)).trans ((up2_o hV106 (by decide)).trans ((up2_o hV51 (by decide)).trans (ajV15 3 13 rfl)))))
                      have pq179 : (V135 43 (5 * b + 2)).toInt = ((V 43 (5 * b + 2))).toInt := congrArg Int32.toInt ((ajV135 43 (5 * b + 2) rfl).trans ((up2_o hV119 (by decide)).trans ((up2_o hV106 (by decide)).trans ((up2_o hV51 (by decide)).trans (ajV15 43 (5 * b + 2) rfl)))))
                      have pq180 : (V135 42 b).toInt = ((V 42 b)).toInt := congrArg Int32.toInt ((ajV135 42 b rfl).trans ((up2_o hV119 (by decide)).trans ((up2_o hV106 (by decide)).trans ((up2_o hV51 (by decide)).trans (ajV15 42 b rfl)))))
                      have pq181 : (V135 41 b).toInt = ((V 41 b)).toInt := congrArg Int32.toInt ((ajV135 41 b rfl).trans ((up2_o hV119 (by decide)).trans ((up2_o hV106 (by decide)).trans ((up2_o hV51 (by decide)).trans (ajV15 41 b rfl)))))
                      have ep184 : V135 84 gf = z50 := ((ajV135 84 gf rfl).trans ((up2_o hV119 (by decide)).trans ((up2_o hV106 (by decide)).trans (up2_s hV51))))
                      have af183 : (V135 42 b).toInt ≤ (V135 84 gf).toInt ∨ (bdp V135 b (V135 84 gf).toInt.toNat).1 = true := by rw [ep184, me169.1.bd, me169.1 42 b (by decide) (by decide)]; exact atn
                      have mo182 : MO V135 Z b gf True True True := MO.ch xlp16_0 me169 ((ajV135 67 gf rfl).trans ((up2_o hV119 (by decide)).trans ((up2_o hV106 (by decide)).trans (up2_o hV51 (by decide))))) ((ajV135 80 gf rfl).trans ((up2_o hV119 (by decide)).trans ((up2_o hV106 (by decide)).trans (up2_o hV51 (by decide))))) (fun _ => Or.inl (by omega)) (fun x h => FK.k4 (by omega) (by omega) (by omega) af183 (by omega) (fun hph => absurd hph (by omega)))
                      have op9 := OQ.op oq9
                      have cd9 := (bc28).1.2 at9.toNat hi9
                      have ka9 : Int32.toNatClampNeg (V15 84 gf) = psz (opf gB.1) at9.toNat := by have h9 := i_clamp (x := V15 84 gf) rfl (by (first | exact om_eafa9039069c r21.1 | omega)); omega
                      have c48 : (V 48 (8200 * b + (Int32.toNatClampNeg (V15 84 gf)))).toInt = enO (opf gB.1 at9.toNat) := by have h9 := cd9.1; rw [← ka9] at h9; exact (congrArg Int32.toInt (ajV15 48 (8200 * b + (Int32.toNatClampNeg (V15 84 gf))) rfl)).symm.trans h9
                      have en9 : 5 ≤ opf gB.1 at9.toNat ∧ opf gB.1 at9.toNat ≤ 9 := enO_59 op9 (by rw [← c48]; omega) (by rw [← c48]; omega)
                      obtain ⟨t8, lp9, q8, oq8⟩ := OQ.i5 oq9 en9
                      obtain ⟨x9, y9, p9, hpe⟩ : ∃ x9 y9 p9, p = x9 :: y9 :: p9 := by rcases p with _ | ⟨x, _ | ⟨y, q⟩⟩; (exact absurd lp9 (by simp)); (exact absurd lp9 (by simp)); exact ⟨x, y, q, rfl⟩
                      have tl9 : ∃ t : Nat, (V15 5 7).toInt = ((t : Nat) : Int) ∧ 2 ≤ t ∧ t ≤ 2000 := by obtain ⟨_, _, _, t, ht, t0, h1, _⟩ := id rw9; have h2 := RWl.tot (show RWl V15 gB (f2 :: gr) t from by obtain ⟨_, _, _, t7, ht7, hl7⟩ := rw9; rw [show t = t7 from by omega]; exact hl7); have h3 : totP (f2 :: gr) ≤ 2000 := (GOs.sf go2).2.1; rw [hfe, hpe] at h1; have h4 : t = t0 + (p9.length + 1 + 1) := h1; exact ⟨t, ht, by omega, by omega⟩
                      obtain ⟨tw9, ht9, tg9, tm9⟩ := tl9
                      have pq185 : (V119 5 7).toInt = z125.toInt := congrArg Int32.toInt (up2_s hV119)
                      exact ihlp16 z165 y14 V135 H locs ls (by (first | exact om_4c7236201e99 r12.2 klp16_0.1 f40 hz165 | omega)) (by (first | exact om_1b1f2d1cff90 klp16_1.1 klp16_1.2 | omega)) mo182 (show (gf : Int) + 1 = (V135 5 6).toInt from by (first | exact om_6e5bbaaa0e03 xlp16_1 pq166 | omega)) (show (V135 67 gf).toInt = 4 from by (first | exact om_ac6651f4ff0c xlp16_2 pq167 | omega)) (show (V135 68 gf).toInt = 0 from by (first | exact om_36161e850215 xlp16_3 pq168 | omega)) (by exfalso; (first | exact om_eaa38358f74c pq113 r114.2 hz112 pq126 hz125 hc139 pq185 | omega)) (by (first | exact om_5e93b663c12e hn hz165 | omega)) (agr.tr (agr.up (agr.up (agr.up (agr.tr agr.rf ajV15 (by decide) (by decide)) hV51 rfl) hV106 rfl) hV119 rfl) ajV135 (by decide) (by decide)) hMV135 hP hD hS (lv_sub hl [0, 3, 4, 5] rfl)
                  · skip
                    have ajV119 : agr [] [] V106 V119 := by rw [hw124]; exact agr.rf
                    refine lv_iload hx hb dX5_work_94 (lv_at hl 0 rfl) ?_
                    refine gE_int (g_runS (As := [.int (V 48 (8200 * b + (Int32.toNatClampNeg (V15 84 gf)))), .int z115, .int z102]) (rest := [.ref (ad 5)]) (wc := []) (tc := []) hx hb hml hown hg gw_self hP hD hK hS hA hnw hgk [] [] (by decide) rfl rfl (x_compute9 l D ks H.size (V 48 (8200 * b + (Int32.toNatClampNeg (V15 84 gf)))) z115 z102 ) w1486 w1487 w171 w1488 hdS_yX5_compute ⟨Nat.le_of_ble_eq_true rfl, Nat.le_of_ble_eq_true rfl⟩ rfl hl.1 rfl (Nat.le_of_ble_eq_true rfl) dX5_work_96 ⟨z0, z0⟩) hP hD hK hS hA (fun z186 u187 H locs w188 hP hD hK hS => ?_)
                    have t189 := w188
                    replace t189 : (((V 48 (8200 * b + (Int32.toNatClampNeg (V15 84 gf))))).toInt = 5 → z186 = z115 + z102) ∧ (((V 48 (8200 * b + (Int32.toNatClampNeg (V15 84 gf))))).toInt = 6 → z186 = z115 - z102) ∧ (((V 48 (8200 * b + (Int32.toNatClampNeg (V15 84 gf))))).toInt = 7 → z186 = z115 * z102) ∧ (((V 48 (8200 * b + (Int32.toNatClampNeg (V15 84 gf))))).toInt = 8 → z186 = (if z115.toInt < z102.toInt then 1 else 0)) ∧ (9 ≤ ((V 48 (8200 * b + (Int32.toNatClampNeg (V15 84 gf))))).toInt → z186 = (if z115 = z102 then 1 else 0)) := t189
                    refine gA_void (gA_runV (As := [.int z186]) (rest := []) (ci := 5) (q0 := 5) hx hb hml hown hg hP hD hK hS hA hnw hgk (x_put9 l D ks H.size ad kk V119 L Z z186 hMV119 ) w1466 w1468 w72 w171 w1469 rfl xgMachine hdV_yX5_put ⟨Nat.le_of_ble_eq_true rfl, Nat.le_of_ble_eq_true rfl⟩ rfl hl.1 rfl (Nat.le_of_ble_eq_true rfl) dX5_work_99 ⟨z0, z0⟩) hP hD hK hS hA (fun u191 H locs w192 hP hD hK hS => ?_)
                    obtain ⟨V194, L195⟩ := u191
                    obtain ⟨hMV194, ajV194, axL195, t193⟩ := w192
                    have axL195 : L = L195 := Eq.symm axL195
                    subst axL195
                    replace hP : va_P D vwCl (xw ad kk V194 L Z) H := hP
                    replace hD : va_D A (xw ad kk V194 L Z) := hD
                    replace hMV194 : rgd bX V194 := hMV194
                    replace ajV194 : agr [(5, 7)] [39] V119 V194 := ajV194
                    have agV194 : agr [(5, 6), (5, 7), (5, 9), (5, 10), (5, 11), (5, 12), (5, 13), (5, 14)] [39, 67, 68, 69, 70, 71, 72, 73, 74, 75, 76, 77, 78, 79, 80, 81, 82, 83, 84, 85] V V194 := agV119.tr ajV194 (by decide) (by decide)
                    replace t193 : (((V119 5 7).toInt < 2048) ∧ V194 = (up2 (up2 V119 5 7 (V119 5 7 + 1)) 39 (Int32.toNatClampNeg (V119 5 7)) z186)) ∨ ((2048 ≤ (V119 5 7).toInt) ∧ V194 = V119) := t193
                    rcases t193 with ⟨hc196, hw197⟩ | ⟨hc198, hw199⟩
                    · skip
                      have pq201 : (V119 5 7).toInt = z112.toInt := congrArg Int32.toInt ((ajV119 5 7 rfl).trans (up2_s hV106))
                      obtain ⟨z200, ez200⟩ : ∃ y : Int32, y = V119 5 7 + 1 := ⟨_, rfl⟩
                      have hz200 : z200.toInt = (V119 5 7).toInt + 1 := i_add ez200 rfl (by decide) (by (first | exact om_f01548935650 pq113 r114.1 r114.2 hz112 pq201 | omega))
                      obtain ⟨V202, hV202⟩ : ∃ z, z = up2 V119 5 7 z200 := ⟨_, rfl⟩
                      have hV194 : V194 = up2 V202 39 (Int32.toNatClampNeg (V119 5 7)) z186 := by rw [hw197, hV202, ez200]
                      refine lv_goto (tgt := 113) hx hb dX5_work_102 (by decide) ?_
                      obtain ⟨z203, ez203⟩ : ∃ y : Int32, y = y13 + 1 := ⟨_, rfl⟩
                      have hz203 : z203.toInt = y13.toInt + 1 := i_add ez203 rfl (by decide) (by (first | exact om_f150dd2841b6 r12.2 klp16_0.1 f40 | omega))
                      refine lv_iinc (v := z203) (lv' := [(3, .int z203), (5, .int z102), (4, .int (V 48 (8200 * b + (Int32.toNatClampNeg (V15 84 gf))))), (2, .int y14), (0, .ref (ad 5)), (1, .ref (Z.fa gf))]) hx hb dX5_work_113 hl (k := 2) rfl (by rw [ez203]; rfl) (by decide) rfl (fun ls hl => ?_)
                      refine lv_goto (tgt := 4) hx hb dX5_work_116 (by decide) ?_
                      have pq204 : (V194 5 6).toInt = ((V15 5 6)).toInt := congrArg Int32.toInt ((up2_o hV194 (by decide)).trans ((up2_k hV202 (by decide)).trans ((ajV119 5 6 rfl).trans ((up2_k hV106 (by decide)).trans (up2_o hV51 (by decide))))))
                      have pq205 : (V194 67 gf).toInt = ((V15 67 gf)).toInt := congrArg Int32.toInt ((up2_o hV194 (by decide)).trans ((up2_o hV202 (by decide)).trans ((ajV119 67 gf rfl).trans ((up2_o hV106 (by decide)).trans (up2_o hV51 (by decide))))))
                      have pq206 : (V194 68 gf).toInt = ((V15 68 gf)).toInt := congrArg Int32.toInt ((up2_o hV194 (by decide)).trans ((up2_o hV202 (by decide)).trans ((ajV119 68 gf rfl).trans ((up2_o hV106 (by decide)).trans (up2_o hV51 (by decide))))))
                      have me207 : ME V15 V194 gf := (ME.up (ME.up (ME.tr (ME.up (ME.up ME.rf hV51 (Or.inl ⟨by decide, by decide, Nat.le_refl _⟩)) hV106 (Or.inr (by omega))) (ME.ag ajV119 (by decide))) hV202 (Or.inr (by omega))) hV194 (Or.inr (by omega)))
                      have pq208 : (V194 70 gf).toInt = ((V15 70 gf)).toInt := congrArg Int32.toInt ((up2_o hV194 (by decide)).trans ((up2_o hV202 (by decide)).trans ((ajV119 70 gf rfl).trans ((up2_o hV106 (by decide)).trans (up2_o hV51 (by decide))))))
                      have pq209 : (V194 71 gf).toInt = ((V15 71 gf)).toInt := congrArg Int32.toInt ((up2_o hV194 (by decide)).trans ((up2_o hV202 (by decide)).trans ((ajV119 71 gf rfl).trans ((up2_o hV106 (by decide)).trans (up2_o hV51 (by decide))))))
                      have pq210 : (V194 75 gf).toInt = ((V15 75 gf)).toInt := congrArg Int32.toInt ((up2_o hV194 (by decide)).trans ((up2_o hV202 (by decide)).trans ((ajV119 75 gf rfl).trans ((up2_o hV106 (by decide)).trans (up2_o hV51 (by decide))))))
                      have pq211 : (V194 76 gf).toInt = ((V15 76 gf)).toInt := congrArg Int32.toInt ((up2_o hV194 (by decide)).trans ((up2_o hV202 (by decide)).trans ((ajV119 76 gf rfl).trans ((up2_o hV106 (by decide)).trans (up2_o hV51 (by decide))))))
                      have pq212 : (V194 80 gf).toInt = ((V15 80 gf)).toInt := congrArg Int32.toInt ((up2_o hV194 (by decide)).trans ((up2_o hV202 (by decide)).trans ((ajV119 80 gf rfl).trans ((up2_o hV106 (by decide)).trans (up2_o hV51 (by decide))))))
                      have pq213 : (V194 84 gf).toInt = z50.toInt := congrArg Int32.toInt ((up2_o hV194 (by decide)).trans ((up2_o hV202 (by decide)).trans ((ajV119 84 gf rfl).trans ((up2_o hV106 (by decide)).trans (up2_s hV51)))))
                      have pq214 : (V194 5 8).toInt = ((V 5 8)).toInt := congrArg Int32.toInt ((up2_o hV194 (by decide)).trans ((up2_k hV202 (by decide)).trans ((ajV119 5 8 rfl).trans ((up2_k hV106 (by decide)).trans ((up2_o hV51 (by decide)).trans (ajV15 5 8 rfl))))))
                      have pq215 : (V194 5 9).toInt = ((V15 5 9)).toInt := congrArg Int32.toInt ((up2_o hV194 (by decide)).trans ((up2_k hV202 (by decide)).trans ((ajV119 5 9 rfl).trans ((up2_k hV106 (by decide)).trans (up2_o hV51 (by decide))))))
                      have pq216 : (V194 3 13).toInt = ((V 3 13)).toInt := congrArg Int32.toInt ((up2_o hV194 (by decide)).trans ((up2_o hV202 (by decide)).trans ((ajV119 3 13 rfl).trans ((up2_o hV106 (by decide)).trans ((up2_o hV51 (by decide)).trans (ajV15 3 13 rfl))))))
                      have pq217 : (V194 43 (5 * b + 2)).toInt = ((V 43 (5 * b + 2))).toInt := congrArg Int32.toInt ((up2_o hV194 (by decide)).trans ((up2_o hV202 (by decide)).trans ((ajV119 43 (5 * b + 2) rfl).trans ((up2_o hV106 (by decide)).trans ((up2_o hV51 (by decide)).trans (ajV15 43 (5 * b + 2) rfl))))))
                      have pq218 : (V194 42 b).toInt = ((V 42 b)).toInt := congrArg Int32.toInt ((up2_o hV194 (by decide)).trans ((up2_o hV202 (by decide)).trans ((ajV119 42 b rfl).trans ((up2_o hV106 (by decide)).trans ((up2_o hV51 (by decide)).trans (ajV15 42 b rfl))))))
                      have pq219 : (V194 41 b).toInt = ((V 41 b)).toInt := congrArg Int32.toInt ((up2_o hV194 (by decide)).trans ((up2_o hV202 (by decide)).trans ((ajV119 41 b rfl).trans ((up2_o hV106 (by decide)).trans ((up2_o hV51 (by decide)).trans (ajV15 41 b rfl))))))
                      have ep222 : V194 84 gf = z50 := ((up2_o hV194 (by decide)).trans ((up2_o hV202 (by decide)).trans ((ajV119 84 gf rfl).trans ((up2_o hV106 (by decide)).trans (up2_s hV51)))))
                      have af221 : (V194 42 b).toInt ≤ (V194 84 gf).toInt ∨ (bdp V194 b (V194 84 gf).toInt.toNat).1 = true := by rw [ep222, me207.1.bd, me207.1 42 b (by decide) (by decide)]; exact atn
                      have mo220 : MO V194 Z b gf True True True := MO.ch xlp16_0 me207 ((up2_o hV194 (by decide)).trans ((up2_o hV202 (by decide)).trans ((ajV119 67 gf rfl).trans ((up2_o hV106 (by decide)).trans (up2_o hV51 (by decide)))))) ((up2_o hV194 (by decide)).trans ((up2_o hV202 (by decide)).trans ((ajV119 80 gf rfl).trans ((up2_o hV106 (by decide)).trans (up2_o hV51 (by decide)))))) (fun _ => Or.inl (by omega)) (fun x h => FK.k4 (by omega) (by omega) (by omega) af221 (by omega) (fun hph => absurd hph (by omega)))
                      have op9 := OQ.op oq9
                      have cd9 := (bc28).1.2 at9.toNat hi9
                      have ka9 : Int32.toNatClampNeg (V15 84 gf) = psz (opf gB.1) at9.toNat := by have h9 := i_clamp (x := V15 84 gf) rfl (by (first | exact om_eafa9039069c r21.1 | omega)); omega
                      have c48 : (V 48 (8200 * b + (Int32.toNatClampNeg (V15 84 gf)))).toInt = enO (opf gB.1 at9.toNat) := by have h9 := cd9.1; rw [← ka9] at h9; exact (congrArg Int32.toInt (ajV15 48 (8200 * b + (Int32.toNatClampNeg (V15 84 gf))) rfl)).symm.trans h9
                      have en9 : 5 ≤ opf gB.1 at9.toNat ∧ opf gB.1 at9.toNat ≤ 9 := enO_59 op9 (by rw [← c48]; omega) (by rw [← c48]; omega)
                      obtain ⟨t8, lp9, q8, oq8⟩ := OQ.i5 oq9 en9
                      obtain ⟨x9, y9, p9, hpe⟩ : ∃ x9 y9 p9, p = x9 :: y9 :: p9 := by rcases p with _ | ⟨x, _ | ⟨y, q⟩⟩; (exact absurd lp9 (by simp)); (exact absurd lp9 (by simp)); exact ⟨x, y, q, rfl⟩
                      have tl9 : ∃ t : Nat, (V15 5 7).toInt = ((t : Nat) : Int) ∧ 2 ≤ t ∧ t ≤ 2000 := by obtain ⟨_, _, _, t, ht, t0, h1, _⟩ := id rw9; have h2 := RWl.tot (show RWl V15 gB (f2 :: gr) t from by obtain ⟨_, _, _, t7, ht7, hl7⟩ := rw9; rw [show t = t7 from by omega]; exact hl7); have h3 : totP (f2 :: gr) ≤ 2000 := (GOs.sf go2).2.1; rw [hfe, hpe] at h1; have h4 : t = t0 + (p9.length + 1 + 1) := h1; exact ⟨t, ht, by omega, by omega⟩
                      obtain ⟨tw9, ht9, tg9, tm9⟩ := tl9
                      have pq223 : (V106 5 7).toInt = z112.toInt := congrArg Int32.toInt (up2_s hV106)
                      exact ihlp16 z203 y14 V194 H locs ls (by (first | exact om_4c7236201e99 r12.2 klp16_0.1 f40 hz203 | omega)) (by (first | exact om_1b1f2d1cff90 klp16_1.1 klp16_1.2 | omega)) mo220 (show (gf : Int) + 1 = (V194 5 6).toInt from by (first | exact om_6e5bbaaa0e03 xlp16_1 pq204 | omega)) (show (V194 67 gf).toInt = 4 from by (first | exact om_ac6651f4ff0c xlp16_2 pq205 | omega)) (show (V194 68 gf).toInt = 0 from by (first | exact om_36161e850215 xlp16_3 pq206 | omega)) (by exfalso; omega) (by (first | exact om_5e93b663c12e hn hz203 | omega)) (agr.up (agr.up (agr.tr (agr.up (agr.up (agr.tr agr.rf ajV15 (by decide) (by decide)) hV51 rfl) hV106 rfl) ajV119 (by decide) (by decide)) hV202 rfl) hV194 rfl) hMV194 hP hD hS (lv_sub hl [0, 3, 4, 5] rfl)
                    · skip
                      have ajV194 : agr [] [] V119 V194 := by rw [hw199]; exact agr.rf
                      refine lv_goto (tgt := 113) hx hb dX5_work_102 (by decide) ?_
                      obtain ⟨z224, ez224⟩ : ∃ y : Int32, y = y13 + 1 := ⟨_, rfl⟩
                      have hz224 : z224.toInt = y13.toInt + 1 := i_add ez224 rfl (by decide) (by (first | exact om_f150dd2841b6 r12.2 klp16_0.1 f40 | omega))
                      refine lv_iinc (v := z224) (lv' := [(3, .int z224), (5, .int z102), (4, .int (V 48 (8200 * b + (Int32.toNatClampNeg (V15 84 gf))))), (2, .int y14), (0, .ref (ad 5)), (1, .ref (Z.fa gf))]) hx hb dX5_work_113 hl (k := 2) rfl (by rw [ez224]; rfl) (by decide) rfl (fun ls hl => ?_)
                      refine lv_goto (tgt := 4) hx hb dX5_work_116 (by decide) ?_
                      have pq225 : (V194 5 6).toInt = ((V15 5 6)).toInt := congrArg Int32.toInt ((ajV194 5 6 rfl).trans ((ajV119 5 6 rfl).trans ((up2_k hV106 (by decide)).trans (up2_o hV51 (by decide)))))
                      have pq226 : (V194 67 gf).toInt = ((V15 67 gf)).toInt := congrArg Int32.toInt ((ajV194 67 gf rfl).trans ((ajV119 67 gf rfl).trans ((up2_o hV106 (by decide)).trans (up2_o hV51 (by decide)))))
                      have pq227 : (V194 68 gf).toInt = ((V15 68 gf)).toInt := congrArg Int32.toInt ((ajV194 68 gf rfl).trans ((ajV119 68 gf rfl).trans ((up2_o hV106 (by decide)).trans (up2_o hV51 (by decide)))))
                      have me228 : ME V15 V194 gf := (ME.tr (ME.tr (ME.up (ME.up ME.rf hV51 (Or.inl ⟨by decide, by decide, Nat.le_refl _⟩)) hV106 (Or.inr (by omega))) (ME.ag ajV119 (by decide))) (ME.ag ajV194 (by decide)))
                      have pq229 : (V194 70 gf).toInt = ((V15 70 gf)).toInt := congrArg Int32.toInt ((ajV194 70 gf rfl).trans ((ajV119 70 gf rfl).trans ((up2_o hV106 (by decide)).trans (up2_o hV51 (by decide)))))
                      have pq230 : (V194 71 gf).toInt = ((V15 71 gf)).toInt := congrArg Int32.toInt ((ajV194 71 gf rfl).trans ((ajV119 71 gf rfl).trans ((up2_o hV106 (by decide)).trans (up2_o hV51 (by decide)))))
                      have pq231 : (V194 75 gf).toInt = ((V15 75 gf)).toInt := congrArg Int32.toInt ((ajV194 75 gf rfl).trans ((ajV119 75 gf rfl).trans ((up2_o hV106 (by decide)).trans (up2_o hV51 (by decide)))))
                      have pq232 : (V194 76 gf).toInt = ((V15 76 gf)).toInt := congrArg Int32.toInt ((ajV194 76 gf rfl).trans ((ajV119 76 gf rfl).trans ((up2_o hV106 (by decide)).trans (up2_o hV51 (by decide)))))
                      have pq233 : (V194 80 gf).toInt = ((V15 80 gf)).toInt := congrArg Int32.toInt ((ajV194 80 gf rfl).trans ((ajV119 80 gf rfl).trans ((up2_o hV106 (by decide)).trans (up2_o hV51 (by decide)))))
                      have pq234 : (V194 84 gf).toInt = z50.toInt := congrArg Int32.toInt ((ajV194 84 gf rfl).trans ((ajV119 84 gf rfl).trans ((up2_o hV106 (by decide)).trans (up2_s hV51))))
                      have pq235 : (V194 5 8).toInt = ((V 5 8)).toInt := congrArg Int32.toInt ((ajV194 5 8 rfl).trans ((ajV119 5 8 rfl).trans ((up2_k hV106 (by decide)).trans ((up2_o hV51 (by decide)).trans (ajV15 5 8 rfl)))))
                      have pq236 : (V194 5 9).toInt = ((V15 5 9)).toInt := congrArg Int32.toInt ((ajV194 5 9 rfl).trans ((ajV119 5 9 rfl).trans ((up2_k hV106 (by decide)).trans (up2_o hV51 (by decide)))))
                      have pq237 : (V194 3 13).toInt = ((V 3 13)).toInt := congrArg Int32.toInt ((ajV194 3 13 rfl).trans ((ajV119 3 13 rfl).trans ((up2_o hV106 (by decide)).trans ((up2_o hV51 (by decide)).trans (ajV15 3 13 rfl)))))
                      have pq238 : (V194 43 (5 * b + 2)).toInt = ((V 43 (5 * b + 2))).toInt := congrArg Int32.toInt ((ajV194 43 (5 * b + 2) rfl).trans ((ajV119 43 (5 * b + 2) rfl).trans ((up2_o hV106 (by decide)).trans ((up2_o hV51 (by decide)).trans (ajV15 43 (5 * b + 2) rfl)))))
                      have pq239 : (V194 42 b).toInt = ((V 42 b)).toInt := congrArg Int32.toInt ((ajV194 42 b rfl).trans ((ajV119 42 b rfl).trans ((up2_o hV106 (by decide)).trans ((up2_o hV51 (by decide)).trans (ajV15 42 b rfl)))))
                      have pq240 : (V194 41 b).toInt = ((V 41 b)).toInt := congrArg Int32.toInt ((ajV194 41 b rfl).trans ((ajV119 41 b rfl).trans ((up2_o hV106 (by decide)).trans ((up2_o hV51 (by decide)).trans (ajV15 41 b rfl)))))
                      have ep243 : V194 84 gf = z50 := ((ajV194 84 gf rfl).trans ((ajV119 84 gf rfl).trans ((up2_o hV106 (by decide)).trans (up2_s hV51))))
                      have af242 : (V194 42 b).toInt ≤ (V194 84 gf).toInt ∨ (bdp V194 b (V194 84 gf).toInt.toNat).1 = true := by rw [ep243, me228.1.bd, me228.1 42 b (by decide) (by decide)]; exact atn
                      have mo241 : MO V194 Z b gf True True True := MO.ch xlp16_0 me228 ((ajV194 67 gf rfl).trans ((ajV119 67 gf rfl).trans ((up2_o hV106 (by decide)).trans (up2_o hV51 (by decide))))) ((ajV194 80 gf rfl).trans ((ajV119 80 gf rfl).trans ((up2_o hV106 (by decide)).trans (up2_o hV51 (by decide))))) (fun _ => Or.inl (by omega)) (fun x h => FK.k4 (by omega) (by omega) (by omega) af242 (by omega) (fun hph => absurd hph (by omega)))
                      have op9 := OQ.op oq9
                      have cd9 := (bc28).1.2 at9.toNat hi9
                      have ka9 : Int32.toNatClampNeg (V15 84 gf) = psz (opf gB.1) at9.toNat := by have h9 := i_clamp (x := V15 84 gf) rfl (by (first | exact om_eafa9039069c r21.1 | omega)); omega
                      have c48 : (V 48 (8200 * b + (Int32.toNatClampNeg (V15 84 gf)))).toInt = enO (opf gB.1 at9.toNat) := by have h9 := cd9.1; rw [← ka9] at h9; exact (congrArg Int32.toInt (ajV15 48 (8200 * b + (Int32.toNatClampNeg (V15 84 gf))) rfl)).symm.trans h9
                      have en9 : 5 ≤ opf gB.1 at9.toNat ∧ opf gB.1 at9.toNat ≤ 9 := enO_59 op9 (by rw [← c48]; omega) (by rw [← c48]; omega)
                      obtain ⟨t8, lp9, q8, oq8⟩ := OQ.i5 oq9 en9
                      obtain ⟨x9, y9, p9, hpe⟩ : ∃ x9 y9 p9, p = x9 :: y9 :: p9 := by rcases p with _ | ⟨x, _ | ⟨y, q⟩⟩; (exact absurd lp9 (by simp)); (exact absurd lp9 (by simp)); exact ⟨x, y, q, rfl⟩
                      have tl9 : ∃ t : Nat, (V15 5 7).toInt = ((t : Nat) : Int) ∧ 2 ≤ t ∧ t ≤ 2000 := by obtain ⟨_, _, _, t, ht, t0, h1, _⟩ := id rw9; have h2 := RWl.tot (show RWl V15 gB (f2 :: gr) t from by obtain ⟨_, _, _, t7, ht7, hl7⟩ := rw9; rw [show t = t7 from by omega]; exact hl7); have h3 : totP (f2 :: gr) ≤ 2000 := (GOs.sf go2).2.1; rw [hfe, hpe] at h1; have h4 : t = t0 + (p9.length + 1 + 1) := h1; exact ⟨t, ht, by omega, by omega⟩
                      obtain ⟨tw9, ht9, tg9, tm9⟩ := tl9
                      have pq244 : (V106 5 7).toInt = z112.toInt := congrArg Int32.toInt (up2_s hV106)
                      have pq245 : (V119 5 7).toInt = z112.toInt := congrArg Int32.toInt ((ajV119 5 7 rfl).trans (up2_s hV106))
                      exact ihlp16 z224 y14 V194 H locs ls (by (first | exact om_4c7236201e99 r12.2 klp16_0.1 f40 hz224 | omega)) (by (first | exact om_1b1f2d1cff90 klp16_1.1 klp16_1.2 | omega)) mo241 (show (gf : Int) + 1 = (V194 5 6).toInt from by (first | exact om_6e5bbaaa0e03 xlp16_1 pq225 | omega)) (show (V194 67 gf).toInt = 4 from by (first | exact om_ac6651f4ff0c xlp16_2 pq226 | omega)) (show (V194 68 gf).toInt = 0 from by (first | exact om_36161e850215 xlp16_3 pq227 | omega)) (by exfalso; (first | exact om_dcd912c4e31c hc123.1 hc198 pq244 pq245 | omega)) (by (first | exact om_5e93b663c12e hn hz224 | omega)) (agr.tr (agr.tr (agr.up (agr.up (agr.tr agr.rf ajV15 (by decide) (by decide)) hV51 rfl) hV106 rfl) ajV119 (by decide) (by decide)) ajV194 (by decide) (by decide)) hMV194 hP hD hS (lv_sub hl [0, 3, 4, 5] rfl)
                · skip
                  have ajV106 : agr [] [] V51 V106 := by rw [hw111]; exact agr.rf
                  refine lv_istore (lv' := [(5, .int z102), (4, .int (V 48 (8200 * b + (Int32.toNatClampNeg (V15 84 gf))))), (3, .int y13), (2, .int y14), (0, .ref (ad 5)), (1, .ref (Z.fa gf))]) hx hb dX5_work_85 hl (by decide) rfl (fun ls hl => ?_)
                  refine lv_aload_n hx hb dX5_work_87 rfl (lv_at hl 4 rfl) ?_
                  refine lv_iload hx hb dX5_work_88 (lv_at hl 1 rfl) ?_
                  refine lv_aload_n hx hb dX5_work_90 rfl (lv_at hl 4 rfl) ?_
                  refine gA_int (gA_runV (As := []) (rest := [.int (V 48 (8200 * b + (Int32.toNatClampNeg (V15 84 gf)))), .ref (ad 5)]) (ci := 5) (q0 := 5) hx hb hml hown hg hP hD hK hS hA hnw hgk (x_pull9 l D ks H.size ad kk V106 L Z  hMV106 ) w1482 w1484 w76 w171 w1485 rfl xgMachine hdV_yX5_pull ⟨Nat.le_of_ble_eq_true rfl, Nat.le_of_ble_eq_true rfl⟩ rfl hl.1 rfl (Nat.le_of_ble_eq_true rfl) dX5_work_91 ⟨z0, z0⟩) hP hD hK hS hA (fun z246 u247 H locs w248 hP hD hK hS => ?_)
                  obtain ⟨V250, L251⟩ := u247
                  obtain ⟨hMV250, ajV250, axL251, t249⟩ := w248
                  have axL251 : L = L251 := Eq.symm axL251
                  subst axL251
                  replace hP : va_P D vwCl (xw ad kk V250 L Z) H := hP
                  replace hD : va_D A (xw ad kk V250 L Z) := hD
                  replace hMV250 : rgd bX V250 := hMV250
                  replace ajV250 : agr [(5, 7)] [] V106 V250 := ajV250
                  have agV250 : agr [(5, 6), (5, 7), (5, 9), (5, 10), (5, 11), (5, 12), (5, 13), (5, 14)] [39, 67, 68, 69, 70, 71, 72, 73, 74, 75, 76, 77, 78, 79, 80, 81, 82, 83, 84, 85] V V250 := agV106.tr ajV250 (by decide) (by decide)
                  replace t249 : ((0 < (V106 5 7).toInt ∧ z246 = V106 39 (Int32.toNatClampNeg (V106 5 7 - 1))) ∧ V250 = (up2 V106 5 7 (V106 5 7 - 1))) ∨ (((V106 5 7).toInt ≤ 0 ∧ z246 = 0) ∧ V250 = V106) := t249
                  rcases t249 with ⟨hc252, hw253⟩ | ⟨hc254, hw255⟩
                  · skip
                    have pq257 : (V106 5 7).toInt = ((V15 5 7)).toInt := congrArg Int32.toInt ((ajV106 5 7 rfl).trans (up2_o hV51 (by decide)))
                    have r258 : 0 ≤ ((V15 5 7)).toInt ∧ ((V15 5 7)).toInt ≤ 2048 := hMV15 5 7
                    obtain ⟨z256, ez256⟩ : ∃ y : Int32, y = V106 5 7 - 1 := ⟨_, rfl⟩
                    have hz256 : z256.toInt = (V106 5 7).toInt - 1 := i_sub ez256 rfl (by decide) (by (first | exact om_dc2ce737465e pq257 r258.1 r258.2 | omega))
                    have hV250 : V250 = up2 V106 5 7 z256 := by rw [hw253, ez256]
                    refine lv_iload hx hb dX5_work_94 (lv_at hl 0 rfl) ?_
                    refine gE_int (g_runS (As := [.int (V 48 (8200 * b + (Int32.toNatClampNeg (V15 84 gf)))), .int z246, .int z102]) (rest := [.ref (ad 5)]) (wc := []) (tc := []) hx hb hml hown hg gw_self hP hD hK hS hA hnw hgk [] [] (by decide) rfl rfl (x_compute9 l D ks H.size (V 48 (8200 * b + (Int32.toNatClampNeg (V15 84 gf)))) z246 z102 ) w1486 w1487 w171 w1488 hdS_yX5_compute ⟨Nat.le_of_ble_eq_true rfl, Nat.le_of_ble_eq_true rfl⟩ rfl hl.1 rfl (Nat.le_of_ble_eq_true rfl) dX5_work_96 ⟨z0, z0⟩) hP hD hK hS hA (fun z259 u260 H locs w261 hP hD hK hS => ?_)
                    have t262 := w261
                    replace t262 : (((V 48 (8200 * b + (Int32.toNatClampNeg (V15 84 gf))))).toInt = 5 → z259 = z246 + z102) ∧ (((V 48 (8200 * b + (Int32.toNatClampNeg (V15 84 gf))))).toInt = 6 → z259 = z246 - z102) ∧ (((V 48 (8200 * b + (Int32.toNatClampNeg (V15 84 gf))))).toInt = 7 → z259 = z246 * z102) ∧ (((V 48 (8200 * b + (Int32.toNatClampNeg (V15 84 gf))))).toInt = 8 → z259 = (if z246.toInt < z102.toInt then 1 else 0)) ∧ (9 ≤ ((V 48 (8200 * b + (Int32.toNatClampNeg (V15 84 gf))))).toInt → z259 = (if z246 = z102 then 1 else 0)) := t262
                    refine gA_void (gA_runV (As := [.int z259]) (rest := []) (ci := 5) (q0 := 5) hx hb hml hown hg hP hD hK hS hA hnw hgk (x_put9 l D ks H.size ad kk V250 L Z z259 hMV250 ) w1466 w1468 w72 w171 w1469 rfl xgMachine hdV_yX5_put ⟨Nat.le_of_ble_eq_true rfl, Nat.le_of_ble_eq_true rfl⟩ rfl hl.1 rfl (Nat.le_of_ble_eq_true rfl) dX5_work_99 ⟨z0, z0⟩) hP hD hK hS hA (fun u264 H locs w265 hP hD hK hS => ?_)
                    obtain ⟨V267, L268⟩ := u264
                    obtain ⟨hMV267, ajV267, axL268, t266⟩ := w265
                    have axL268 : L = L268 := Eq.symm axL268
                    subst axL268
                    replace hP : va_P D vwCl (xw ad kk V267 L Z) H := hP
                    replace hD : va_D A (xw ad kk V267 L Z) := hD
                    replace hMV267 : rgd bX V267 := hMV267
                    replace ajV267 : agr [(5, 7)] [39] V250 V267 := ajV267
                    have agV267 : agr [(5, 6), (5, 7), (5, 9), (5, 10), (5, 11), (5, 12), (5, 13), (5, 14)] [39, 67, 68, 69, 70, 71, 72, 73, 74, 75, 76, 77, 78, 79, 80, 81, 82, 83, 84, 85] V V267 := agV250.tr ajV267 (by decide) (by decide)
                    replace t266 : (((V250 5 7).toInt < 2048) ∧ V267 = (up2 (up2 V250 5 7 (V250 5 7 + 1)) 39 (Int32.toNatClampNeg (V250 5 7)) z259)) ∨ ((2048 ≤ (V250 5 7).toInt) ∧ V267 = V250) := t266
                    rcases t266 with ⟨hc269, hw270⟩ | ⟨hc271, hw272⟩
                    · skip
                      have pq274 : (V250 5 7).toInt = z256.toInt := congrArg Int32.toInt (up2_s hV250)
                      obtain ⟨z273, ez273⟩ : ∃ y : Int32, y = V250 5 7 + 1 := ⟨_, rfl⟩
                      have hz273 : z273.toInt = (V250 5 7).toInt + 1 := i_add ez273 rfl (by decide) (by (first | exact om_f01548935650 pq257 r258.1 r258.2 hz256 pq274 | omega))
                      obtain ⟨V275, hV275⟩ : ∃ z, z = up2 V250 5 7 z273 := ⟨_, rfl⟩
                      have hV267 : V267 = up2 V275 39 (Int32.toNatClampNeg (V250 5 7)) z259 := by rw [hw270, hV275, ez273]
                      refine lv_goto (tgt := 113) hx hb dX5_work_102 (by decide) ?_
                      obtain ⟨z276, ez276⟩ : ∃ y : Int32, y = y13 + 1 := ⟨_, rfl⟩
                      have hz276 : z276.toInt = y13.toInt + 1 := i_add ez276 rfl (by decide) (by (first | exact om_f150dd2841b6 r12.2 klp16_0.1 f40 | omega))
                      refine lv_iinc (v := z276) (lv' := [(3, .int z276), (5, .int z102), (4, .int (V 48 (8200 * b + (Int32.toNatClampNeg (V15 84 gf))))), (2, .int y14), (0, .ref (ad 5)), (1, .ref (Z.fa gf))]) hx hb dX5_work_113 hl (k := 2) rfl (by rw [ez276]; rfl) (by decide) rfl (fun ls hl => ?_)
                      refine lv_goto (tgt := 4) hx hb dX5_work_116 (by decide) ?_
                      have pq277 : (V267 5 6).toInt = ((V15 5 6)).toInt := congrArg Int32.toInt ((up2_o hV267 (by decide)).trans ((up2_k hV275 (by decide)).trans ((up2_k hV250 (by decide)).trans ((ajV106 5 6 rfl).trans (up2_o hV51 (by decide))))))
                      have pq278 : (V267 67 gf).toInt = ((V15 67 gf)).toInt := congrArg Int32.toInt ((up2_o hV267 (by decide)).trans ((up2_o hV275 (by decide)).trans ((up2_o hV250 (by decide)).trans ((ajV106 67 gf rfl).trans (up2_o hV51 (by decide))))))
                      have pq279 : (V267 68 gf).toInt = ((V15 68 gf)).toInt := congrArg Int32.toInt ((up2_o hV267 (by decide)).trans ((up2_o hV275 (by decide)).trans ((up2_o hV250 (by decide)).trans ((ajV106 68 gf rfl).trans (up2_o hV51 (by decide))))))
                      have me280 : ME V15 V267 gf := (ME.up (ME.up (ME.up (ME.tr (ME.up ME.rf hV51 (Or.inl ⟨by decide, by decide, Nat.le_refl _⟩)) (ME.ag ajV106 (by decide))) hV250 (Or.inr (by omega))) hV275 (Or.inr (by omega))) hV267 (Or.inr (by omega)))
                      have pq281 : (V267 70 gf).toInt = ((V15 70 gf)).toInt := congrArg Int32.toInt ((up2_o hV267 (by decide)).trans ((up2_o hV275 (by decide)).trans ((up2_o hV250 (by decide)).trans ((ajV106 70 gf rfl).trans (up2_o hV51 (by decide))))))
                      have pq282 : (V267 71 gf).toInt = ((V15 71 gf)).toInt := congrArg Int32.toInt ((up2_o hV267 (by decide)).trans ((up2_o hV275 (by decide)).trans ((up2_o hV250 (by decide)).trans ((ajV106 71 gf rfl).trans (up2_o hV51 (by decide))))))
                      have pq283 : (V267 75 gf).toInt = ((V15 75 gf)).toInt := congrArg Int32.toInt ((up2_o hV267 (by decide)).trans ((up2_o hV275 (by decide)).trans ((up2_o hV250 (by decide)).trans ((ajV106 75 gf rfl).trans (up2_o hV51 (by decide))))))
                      have pq284 : (V267 76 gf).toInt = ((V15 76 gf)).toInt := congrArg Int32.toInt ((up2_o hV267 (by decide)).trans ((up2_o hV275 (by decide)).trans ((up2_o hV250 (by decide)).trans ((ajV106 76 gf rfl).trans (up2_o hV51 (by decide))))))
                      have pq285 : (V267 80 gf).toInt = ((V15 80 gf)).toInt := congrArg Int32.toInt ((up2_o hV267 (by decide)).trans ((up2_o hV275 (by decide)).trans ((up2_o hV250 (by decide)).trans ((ajV106 80 gf rfl).trans (up2_o hV51 (by decide))))))
                      have pq286 : (V267 84 gf).toInt = z50.toInt := congrArg Int32.toInt ((up2_o hV267 (by decide)).trans ((up2_o hV275 (by decide)).trans ((up2_o hV250 (by decide)).trans ((ajV106 84 gf rfl).trans (up2_s hV51)))))
                      have pq287 : (V267 5 8).toInt = ((V 5 8)).toInt := congrArg Int32.toInt ((up2_o hV267 (by decide)).trans ((up2_k hV275 (by decide)).trans ((up2_k hV250 (by decide)).trans ((ajV106 5 8 rfl).trans ((up2_o hV51 (by decide)).trans (ajV15 5 8 rfl))))))
                      have pq288 : (V267 5 9).toInt = ((V15 5 9)).toInt := congrArg Int32.toInt ((up2_o hV267 (by decide)).trans ((up2_k hV275 (by decide)).trans ((up2_k hV250 (by decide)).trans ((ajV106 5 9 rfl).trans (up2_o hV51 (by decide))))))
                      have pq289 : (V267 3 13).toInt = ((V 3 13)).toInt := congrArg Int32.toInt ((up2_o hV267 (by decide)).trans ((up2_o hV275 (by decide)).trans ((up2_o hV250 (by decide)).trans ((ajV106 3 13 rfl).trans ((up2_o hV51 (by decide)).trans (ajV15 3 13 rfl))))))
                      have pq290 : (V267 43 (5 * b + 2)).toInt = ((V 43 (5 * b + 2))).toInt := congrArg Int32.toInt ((up2_o hV267 (by decide)).trans ((up2_o hV275 (by decide)).trans ((up2_o hV250 (by decide)).trans ((ajV106 43 (5 * b + 2) rfl).trans ((up2_o hV51 (by decide)).trans (ajV15 43 (5 * b + 2) rfl))))))
                      have pq291 : (V267 42 b).toInt = ((V 42 b)).toInt := congrArg Int32.toInt ((up2_o hV267 (by decide)).trans ((up2_o hV275 (by decide)).trans ((up2_o hV250 (by decide)).trans ((ajV106 42 b rfl).trans ((up2_o hV51 (by decide)).trans (ajV15 42 b rfl))))))
                      have pq292 : (V267 41 b).toInt = ((V 41 b)).toInt := congrArg Int32.toInt ((up2_o hV267 (by decide)).trans ((up2_o hV275 (by decide)).trans ((up2_o hV250 (by decide)).trans ((ajV106 41 b rfl).trans ((up2_o hV51 (by decide)).trans (ajV15 41 b rfl))))))
                      have ep295 : V267 84 gf = z50 := ((up2_o hV267 (by decide)).trans ((up2_o hV275 (by decide)).trans ((up2_o hV250 (by decide)).trans ((ajV106 84 gf rfl).trans (up2_s hV51)))))
                      have af294 : (V267 42 b).toInt ≤ (V267 84 gf).toInt ∨ (bdp V267 b (V267 84 gf).toInt.toNat).1 = true := by rw [ep295, me280.1.bd, me280.1 42 b (by decide) (by decide)]; exact atn
                      have mo293 : MO V267 Z b gf True True True := MO.ch xlp16_0 me280 ((up2_o hV267 (by decide)).trans ((up2_o hV275 (by decide)).trans ((up2_o hV250 (by decide)).trans ((ajV106 67 gf rfl).trans (up2_o hV51 (by decide)))))) ((up2_o hV267 (by decide)).trans ((up2_o hV275 (by decide)).trans ((up2_o hV250 (by decide)).trans ((ajV106 80 gf rfl).trans (up2_o hV51 (by decide)))))) (fun _ => Or.inl (by omega)) (fun x h => FK.k4 (by omega) (by omega) (by omega) af294 (by omega) (fun hph => absurd hph (by omega)))
                      have op9 := OQ.op oq9
                      have cd9 := (bc28).1.2 at9.toNat hi9
                      have ka9 : Int32.toNatClampNeg (V15 84 gf) = psz (opf gB.1) at9.toNat := by have h9 := i_clamp (x := V15 84 gf) rfl (by (first | exact om_eafa9039069c r21.1 | omega)); omega
                      have c48 : (V 48 (8200 * b + (Int32.toNatClampNeg (V15 84 gf)))).toInt = enO (opf gB.1 at9.toNat) := by have h9 := cd9.1; rw [← ka9] at h9; exact (congrArg Int32.toInt (ajV15 48 (8200 * b + (Int32.toNatClampNeg (V15 84 gf))) rfl)).symm.trans h9
                      have en9 : 5 ≤ opf gB.1 at9.toNat ∧ opf gB.1 at9.toNat ≤ 9 := enO_59 op9 (by rw [← c48]; omega) (by rw [← c48]; omega)
                      obtain ⟨t8, lp9, q8, oq8⟩ := OQ.i5 oq9 en9
                      obtain ⟨x9, y9, p9, hpe⟩ : ∃ x9 y9 p9, p = x9 :: y9 :: p9 := by rcases p with _ | ⟨x, _ | ⟨y, q⟩⟩; (exact absurd lp9 (by simp)); (exact absurd lp9 (by simp)); exact ⟨x, y, q, rfl⟩
                      have tl9 : ∃ t : Nat, (V15 5 7).toInt = ((t : Nat) : Int) ∧ 2 ≤ t ∧ t ≤ 2000 := by obtain ⟨_, _, _, t, ht, t0, h1, _⟩ := id rw9; have h2 := RWl.tot (show RWl V15 gB (f2 :: gr) t from by obtain ⟨_, _, _, t7, ht7, hl7⟩ := rw9; rw [show t = t7 from by omega]; exact hl7); have h3 : totP (f2 :: gr) ≤ 2000 := (GOs.sf go2).2.1; rw [hfe, hpe] at h1; have h4 : t = t0 + (p9.length + 1 + 1) := h1; exact ⟨t, ht, by omega, by omega⟩
                      obtain ⟨tw9, ht9, tg9, tm9⟩ := tl9
                      have pq296 : (V51 5 7).toInt = ((V15 5 7)).toInt := congrArg Int32.toInt (up2_o hV51 (by decide))
                      exact ihlp16 z276 y14 V267 H locs ls (by (first | exact om_4c7236201e99 r12.2 klp16_0.1 f40 hz276 | omega)) (by (first | exact om_1b1f2d1cff90 klp16_1.1 klp16_1.2 | omega)) mo293 (show (gf : Int) + 1 = (V267 5 6).toInt from by (first | exact om_6e5bbaaa0e03 xlp16_1 pq277 | omega)) (show (V267 67 gf).toInt = 4 from by (first | exact om_ac6651f4ff0c xlp16_2 pq278 | omega)) (show (V267 68 gf).toInt = 0 from by (first | exact om_36161e850215 xlp16_3 pq279 | omega)) (by exfalso; (first | exact om_1b5e55aa7e7d hc110.1 hc252.1 pq257 pq296 | omega)) (by (first | exact om_5e93b663c12e hn hz276 | omega)) (agr.up (agr.up (agr.up (agr.tr (agr.up (agr.tr agr.rf ajV15 (by decide) (by decide)) hV51 rfl) ajV106 (by decide) (by decide)) hV250 rfl) hV275 rfl) hV267 rfl) hMV267 hP hD hS (lv_sub hl [0, 3, 4, 5] rfl)
                    · skip
                      have ajV267 : agr [] [] V250 V267 := by rw [hw272]; exact agr.rf
                      refine lv_goto (tgt := 113) hx hb dX5_work_102 (by decide) ?_
                      obtain ⟨z297, ez297⟩ : ∃ y : Int32, y = y13 + 1 := ⟨_, rfl⟩
                      have hz297 : z297.toInt = y13.toInt + 1 := i_add ez297 rfl (by decide) (by (first | exact om_f150dd2841b6 r12.2 klp16_0.1 f40 | omega))
                      refine lv_iinc (v := z297) (lv' := [(3, .int z297), (5, .int z102), (4, .int (V 48 (8200 * b + (Int32.toNatClampNeg (V15 84 gf))))), (2, .int y14), (0, .ref (ad 5)), (1, .ref (Z.fa gf))]) hx hb dX5_work_113 hl (k := 2) rfl (by rw [ez297]; rfl) (by decide) rfl (fun ls hl => ?_)
                      refine lv_goto (tgt := 4) hx hb dX5_work_116 (by decide) ?_
                      have pq298 : (V267 5 6).toInt = ((V15 5 6)).toInt := congrArg Int32.toInt ((ajV267 5 6 rfl).trans ((up2_k hV250 (by decide)).trans ((ajV106 5 6 rfl).trans (up2_o hV51 (by decide)))))
                      have pq299 : (V267 67 gf).toInt = ((V15 67 gf)).toInt := congrArg Int32.toInt ((ajV267 67 gf rfl).trans ((up2_o hV250 (by decide)).trans ((ajV106 67 gf rfl).trans (up2_o hV51 (by decide)))))
                      have pq300 : (V267 68 gf).toInt = ((V15 68 gf)).toInt := congrArg Int32.toInt ((ajV267 68 gf rfl).trans ((up2_o hV250 (by decide)).trans ((ajV106 68 gf rfl).trans (up2_o hV51 (by decide)))))
                      have me301 : ME V15 V267 gf := (ME.tr (ME.up (ME.tr (ME.up ME.rf hV51 (Or.inl ⟨by decide, by decide, Nat.le_refl _⟩)) (ME.ag ajV106 (by decide))) hV250 (Or.inr (by omega))) (ME.ag ajV267 (by decide)))
                      have pq302 : (V267 70 gf).toInt = ((V15 70 gf)).toInt := congrArg Int32.toInt ((ajV267 70 gf rfl).trans ((up2_o hV250 (by decide)).trans ((ajV106 70 gf rfl).trans (up2_o hV51 (by decide)))))
                      have pq303 : (V267 71 gf).toInt = ((V15 71 gf)).toInt := congrArg Int32.toInt ((ajV267 71 gf rfl).trans ((up2_o hV250 (by decide)).trans ((ajV106 71 gf rfl).trans (up2_o hV51 (by decide)))))
                      have pq304 : (V267 75 gf).toInt = ((V15 75 gf)).toInt := congrArg Int32.toInt ((ajV267 75 gf rfl).trans ((up2_o hV250 (by decide)).trans ((ajV106 75 gf rfl).trans (up2_o hV51 (by decide)))))
                      have pq305 : (V267 76 gf).toInt = ((V15 76 gf)).toInt := congrArg Int32.toInt ((ajV267 76 gf rfl).trans ((up2_o hV250 (by decide)).trans ((ajV106 76 gf rfl).trans (up2_o hV51 (by decide)))))
                      have pq306 : (V267 80 gf).toInt = ((V15 80 gf)).toInt := congrArg Int32.toInt ((ajV267 80 gf rfl).trans ((up2_o hV250 (by decide)).trans ((ajV106 80 gf rfl).trans (up2_o hV51 (by decide)))))
                      have pq307 : (V267 84 gf).toInt = z50.toInt := congrArg Int32.toInt ((ajV267 84 gf rfl).trans ((up2_o hV250 (by decide)).trans ((ajV106 84 gf rfl).trans (up2_s hV51))))
                      have pq308 : (V267 5 8).toInt = ((V 5 8)).toInt := congrArg Int32.toInt ((ajV267 5 8 rfl).trans ((up2_k hV250 (by decide)).trans ((ajV106 5 8 rfl).trans ((up2_o hV51 (by decide)).trans (ajV15 5 8 rfl)))))
                      have pq309 : (V267 5 9).toInt = ((V15 5 9)).toInt := congrArg Int32.toInt ((ajV267 5 9 rfl).trans ((up2_k hV250 (by decide)).trans ((ajV106 5 9 rfl).trans (up2_o hV51 (by decide)))))
                      have pq310 : (V267 3 13).toInt = ((V 3 13)).toInt := congrArg Int32.toInt ((ajV267 3 13 rfl).trans ((up2_o hV250 (by decide)).trans ((ajV106 3 13 rfl).trans ((up2_o hV51 (by decide)).trans (ajV15 3 13 rfl)))))
                      have pq311 : (V267 43 (5 * b + 2)).toInt = ((V 43 (5 * b + 2))).toInt := congrArg Int32.toInt ((ajV267 43 (5 * b + 2) rfl).trans ((up2_o hV250 (by decide)).trans ((ajV106 43 (5 * b + 2) rfl).trans ((up2_o hV51 (by decide)).trans (ajV15 43 (5 * b + 2) rfl)))))
                      have pq312 : (V267 42 b).toInt = ((V 42 b)).toInt := congrArg Int32.toInt ((ajV267 42 b rfl).trans ((up2_o hV250 (by decide)).trans ((ajV106 42 b rfl).trans ((up2_o hV51 (by decide)).trans (ajV15 42 b rfl)))))
                      have pq313 : (V267 41 b).toInt = ((V 41 b)).toInt := congrArg Int32.toInt ((ajV267 41 b rfl).trans ((up2_o hV250 (by decide)).trans ((ajV106 41 b rfl).trans ((up2_o hV51 (by decide)).trans (ajV15 41 b rfl)))))
                      have ep316 : V267 84 gf = z50 := ((ajV267 84 gf rfl).trans ((up2_o hV250 (by decide)).trans ((ajV106 84 gf rfl).trans (up2_s hV51))))
                      have af315 : (V267 42 b).toInt ≤ (V267 84 gf).toInt ∨ (bdp V267 b (V267 84 gf).toInt.toNat).1 = true := by rw [ep316, me301.1.bd, me301.1 42 b (by decide) (by decide)]; exact atn
                      have mo314 : MO V267 Z b gf True True True := MO.ch xlp16_0 me301 ((ajV267 67 gf rfl).trans ((up2_o hV250 (by decide)).trans ((ajV106 67 gf rfl).trans (up2_o hV51 (by decide))))) ((ajV267 80 gf rfl).trans ((up2_o hV250 (by decide)).trans ((ajV106 80 gf rfl).trans (up2_o hV51 (by decide))))) (fun _ => Or.inl (by omega)) (fun x h => FK.k4 (by omega) (by omega) (by omega) af315 (by omega) (fun hph => absurd hph (by omega)))
                      have op9 := OQ.op oq9
                      have cd9 := (bc28).1.2 at9.toNat hi9
                      have ka9 : Int32.toNatClampNeg (V15 84 gf) = psz (opf gB.1) at9.toNat := by have h9 := i_clamp (x := V15 84 gf) rfl (by (first | exact om_eafa9039069c r21.1 | omega)); omega
                      have c48 : (V 48 (8200 * b + (Int32.toNatClampNeg (V15 84 gf)))).toInt = enO (opf gB.1 at9.toNat) := by have h9 := cd9.1; rw [← ka9] at h9; exact (congrArg Int32.toInt (ajV15 48 (8200 * b + (Int32.toNatClampNeg (V15 84 gf))) rfl)).symm.trans h9
                      have en9 : 5 ≤ opf gB.1 at9.toNat ∧ opf gB.1 at9.toNat ≤ 9 := enO_59 op9 (by rw [← c48]; omega) (by rw [← c48]; omega)
                      obtain ⟨t8, lp9, q8, oq8⟩ := OQ.i5 oq9 en9
                      obtain ⟨x9, y9, p9, hpe⟩ : ∃ x9 y9 p9, p = x9 :: y9 :: p9 := by rcases p with _ | ⟨x, _ | ⟨y, q⟩⟩; (exact absurd lp9 (by simp)); (exact absurd lp9 (by simp)); exact ⟨x, y, q, rfl⟩
                      have tl9 : ∃ t : Nat, (V15 5 7).toInt = ((t : Nat) : Int) ∧ 2 ≤ t ∧ t ≤ 2000 := by obtain ⟨_, _, _, t, ht, t0, h1, _⟩ := id rw9; have h2 := RWl.tot (show RWl V15 gB (f2 :: gr) t from by obtain ⟨_, _, _, t7, ht7, hl7⟩ := rw9; rw [show t = t7 from by omega]; exact hl7); have h3 : totP (f2 :: gr) ≤ 2000 := (GOs.sf go2).2.1; rw [hfe, hpe] at h1; have h4 : t = t0 + (p9.length + 1 + 1) := h1; exact ⟨t, ht, by omega, by omega⟩
                      obtain ⟨tw9, ht9, tg9, tm9⟩ := tl9
                      have pq317 : (V51 5 7).toInt = ((V15 5 7)).toInt := congrArg Int32.toInt (up2_o hV51 (by decide))
                      have pq318 : (V250 5 7).toInt = z256.toInt := congrArg Int32.toInt (up2_s hV250)
                      exact ihlp16 z297 y14 V267 H locs ls (by (first | exact om_4c7236201e99 r12.2 klp16_0.1 f40 hz297 | omega)) (by (first | exact om_1b1f2d1cff90 klp16_1.1 klp16_1.2 | omega)) mo314 (show (gf : Int) + 1 = (V267 5 6).toInt from by (first | exact om_6e5bbaaa0e03 xlp16_1 pq298 | omega)) (show (V267 67 gf).toInt = 4 from by (first | exact om_ac6651f4ff0c xlp16_2 pq299 | omega)) (show (V267 68 gf).toInt = 0 from by (first | exact om_36161e850215 xlp16_3 pq300 | omega)) (by exfalso; (first | exact om_6614fd74b016 hc110.1 pq257 hz256 hc271 pq317 pq318 | omega)) (by (first | exact om_5e93b663c12e hn hz297 | omega)) (agr.tr (agr.up (agr.tr (agr.up (agr.tr agr.rf ajV15 (by decide) (by decide)) hV51 rfl) ajV106 (by decide) (by decide)) hV250 rfl) ajV267 (by decide) (by decide)) hMV267 hP hD hS (lv_sub hl [0, 3, 4, 5] rfl)
                  · skip
                    have ajV250 : agr [] [] V106 V250 := by rw [hw255]; exact agr.rf
                    refine lv_iload hx hb dX5_work_94 (lv_at hl 0 rfl) ?_
                    refine gE_int (g_runS (As := [.int (V 48 (8200 * b + (Int32.toNatClampNeg (V15 84 gf)))), .int z246, .int z102]) (rest := [.ref (ad 5)]) (wc := []) (tc := []) hx hb hml hown hg gw_self hP hD hK hS hA hnw hgk [] [] (by decide) rfl rfl (x_compute9 l D ks H.size (V 48 (8200 * b + (Int32.toNatClampNeg (V15 84 gf)))) z246 z102 ) w1486 w1487 w171 w1488 hdS_yX5_compute ⟨Nat.le_of_ble_eq_true rfl, Nat.le_of_ble_eq_true rfl⟩ rfl hl.1 rfl (Nat.le_of_ble_eq_true rfl) dX5_work_96 ⟨z0, z0⟩) hP hD hK hS hA (fun z319 u320 H locs w321 hP hD hK hS => ?_)
                    have t322 := w321
                    replace t322 : (((V 48 (8200 * b + (Int32.toNatClampNeg (V15 84 gf))))).toInt = 5 → z319 = z246 + z102) ∧ (((V 48 (8200 * b + (Int32.toNatClampNeg (V15 84 gf))))).toInt = 6 → z319 = z246 - z102) ∧ (((V 48 (8200 * b + (Int32.toNatClampNeg (V15 84 gf))))).toInt = 7 → z319 = z246 * z102) ∧ (((V 48 (8200 * b + (Int32.toNatClampNeg (V15 84 gf))))).toInt = 8 → z319 = (if z246.toInt < z102.toInt then 1 else 0)) ∧ (9 ≤ ((V 48 (8200 * b + (Int32.toNatClampNeg (V15 84 gf))))).toInt → z319 = (if z246 = z102 then 1 else 0)) := t322
                    refine gA_void (gA_runV (As := [.int z319]) (rest := []) (ci := 5) (q0 := 5) hx hb hml hown hg hP hD hK hS hA hnw hgk (x_put9 l D ks H.size ad kk V250 L Z z319 hMV250 ) w1466 w1468 w72 w171 w1469 rfl xgMachine hdV_yX5_put ⟨Nat.le_of_ble_eq_true rfl, Nat.le_of_ble_eq_true rfl⟩ rfl hl.1 rfl (Nat.le_of_ble_eq_true rfl) dX5_work_99 ⟨z0, z0⟩) hP hD hK hS hA (fun u324 H locs w325 hP hD hK hS => ?_)
                    obtain ⟨V327, L328⟩ := u324
                    obtain ⟨hMV327, ajV327, axL328, t326⟩ := w325
                    have axL328 : L = L328 := Eq.symm axL328
                    subst axL328
                    replace hP : va_P D vwCl (xw ad kk V327 L Z) H := hP
                    replace hD : va_D A (xw ad kk V327 L Z) := hD
                    replace hMV327 : rgd bX V327 := hMV327
                    replace ajV327 : agr [(5, 7)] [39] V250 V327 := ajV327
                    have agV327 : agr [(5, 6), (5, 7), (5, 9), (5, 10), (5, 11), (5, 12), (5, 13), (5, 14)] [39, 67, 68, 69, 70, 71, 72, 73, 74, 75, 76, 77, 78, 79, 80, 81, 82, 83, 84, 85] V V327 := agV250.tr ajV327 (by decide) (by decide)
                    replace t326 : (((V250 5 7).toInt < 2048) ∧ V327 = (up2 (up2 V250 5 7 (V250 5 7 + 1)) 39 (Int32.toNatClampNeg (V250 5 7)) z319)) ∨ ((2048 ≤ (V250 5 7).toInt) ∧ V327 = V250) := t326
                    rcases t326 with ⟨hc329, hw330⟩ | ⟨hc331, hw332⟩
                    · skip
                      have pq334 : (V250 5 7).toInt = ((V15 5 7)).toInt := congrArg Int32.toInt ((ajV250 5 7 rfl).trans ((ajV106 5 7 rfl).trans (up2_o hV51 (by decide))))
                      have r335 : 0 ≤ ((V15 5 7)).toInt ∧ ((V15 5 7)).toInt ≤ 2048 := hMV15 5 7
                      obtain ⟨z333, ez333⟩ : ∃ y : Int32, y = V250 5 7 + 1 := ⟨_, rfl⟩
                      have hz333 : z333.toInt = (V250 5 7).toInt + 1 := i_add ez333 rfl (by decide) (by (first | exact om_e8735de14d36 pq334 r335.1 r335.2 | omega))
                      obtain ⟨V336, hV336⟩ : ∃ z, z = up2 V250 5 7 z333 := ⟨_, rfl⟩
                      have hV327 : V327 = up2 V336 39 (Int32.toNatClampNeg (V250 5 7)) z319 := by rw [hw330, hV336, ez333]
                      refine lv_goto (tgt := 113) hx hb dX5_work_102 (by decide) ?_
                      obtain ⟨z337, ez337⟩ : ∃ y : Int32, y = y13 + 1 := ⟨_, rfl⟩
                      have hz337 : z337.toInt = y13.toInt + 1 := i_add ez337 rfl (by decide) (by (first | exact om_f150dd2841b6 r12.2 klp16_0.1 f40 | omega))
                      refine lv_iinc (v := z337) (lv' := [(3, .int z337), (5, .int z102), (4, .int (V 48 (8200 * b + (Int32.toNatClampNeg (V15 84 gf))))), (2, .int y14), (0, .ref (ad 5)), (1, .ref (Z.fa gf))]) hx hb dX5_work_113 hl (k := 2) rfl (by rw [ez337]; rfl) (by decide) rfl (fun ls hl => ?_)
                      refine lv_goto (tgt := 4) hx hb dX5_work_116 (by decide) ?_
                      have pq338 : (V327 5 6).toInt = ((V15 5 6)).toInt := congrArg Int32.toInt ((up2_o hV327 (by decide)).trans ((up2_k hV336 (by decide)).trans ((ajV250 5 6 rfl).trans ((ajV106 5 6 rfl).trans (up2_o hV51 (by decide))))))
                      have pq339 : (V327 67 gf).toInt = ((V15 67 gf)).toInt := congrArg Int32.toInt ((up2_o hV327 (by decide)).trans ((up2_o hV336 (by decide)).trans ((ajV250 67 gf rfl).trans ((ajV106 67 gf rfl).trans (up2_o hV51 (by decide))))))
                      have pq340 : (V327 68 gf).toInt = ((V15 68 gf)).toInt := congrArg Int32.toInt ((up2_o hV327 (by decide)).trans ((up2_o hV336 (by decide)).trans ((ajV250 68 gf rfl).trans ((ajV106 68 gf rfl).trans (up2_o hV51 (by decide))))))
                      have me341 : ME V15 V327 gf := (ME.up (ME.up (ME.tr (ME.tr (ME.up ME.rf hV51 (Or.inl ⟨by decide, by decide, Nat.le_refl _⟩)) (ME.ag ajV106 (by decide))) (ME.ag ajV250 (by decide))) hV336 (Or.inr (by omega))) hV327 (Or.inr (by omega)))
                      have pq342 : (V327 70 gf).toInt = ((V15 70 gf)).toInt := congrArg Int32.toInt ((up2_o hV327 (by decide)).trans ((up2_o hV336 (by decide)).trans ((ajV250 70 gf rfl).trans ((ajV106 70 gf rfl).trans (up2_o hV51 (by decide))))))
                      have pq343 : (V327 71 gf).toInt = ((V15 71 gf)).toInt := congrArg Int32.toInt ((up2_o hV327 (by decide)).trans ((up2_o hV336 (by decide)).trans ((ajV250 71 gf rfl).trans ((ajV106 71 gf rfl).trans (up2_o hV51 (by decide))))))
                      have pq344 : (V327 75 gf).toInt = ((V15 75 gf)).toInt := congrArg Int32.toInt ((up2_o hV327 (by decide)).trans ((up2_o hV336 (by decide)).trans ((ajV250 75 gf rfl).trans ((ajV106 75 gf rfl).trans (up2_o hV51 (by decide))))))
                      have pq345 : (V327 76 gf).toInt = ((V15 76 gf)).toInt := congrArg Int32.toInt ((up2_o hV327 (by decide)).trans ((up2_o hV336 (by decide)).trans ((ajV250 76 gf rfl).trans ((ajV106 76 gf rfl).trans (up2_o hV51 (by decide))))))
                      have pq346 : (V327 80 gf).toInt = ((V15 80 gf)).toInt := congrArg Int32.toInt ((up2_o hV327 (by decide)).trans ((up2_o hV336 (by decide)).trans ((ajV250 80 gf rfl).trans ((ajV106 80 gf rfl).trans (up2_o hV51 (by decide))))))
                      have pq347 : (V327 84 gf).toInt = z50.toInt := congrArg Int32.toInt ((up2_o hV327 (by decide)).trans ((up2_o hV336 (by decide)).trans ((ajV250 84 gf rfl).trans ((ajV106 84 gf rfl).trans (up2_s hV51)))))
                      have pq348 : (V327 5 8).toInt = ((V 5 8)).toInt := congrArg Int32.toInt ((up2_o hV327 (by decide)).trans ((up2_k hV336 (by decide)).trans ((ajV250 5 8 rfl).trans ((ajV106 5 8 rfl).trans ((up2_o hV51 (by decide)).trans (ajV15 5 8 rfl))))))
                      have pq349 : (V327 5 9).toInt = ((V15 5 9)).toInt := congrArg Int32.toInt ((up2_o hV327 (by decide)).trans ((up2_k hV336 (by decide)).trans ((ajV250 5 9 rfl).trans ((ajV106 5 9 rfl).trans (up2_o hV51 (by decide))))))
                      have pq350 : (V327 3 13).toInt = ((V 3 13)).toInt := congrArg Int32.toInt ((up2_o hV327 (by decide)).trans ((up2_o hV336 (by decide)).trans ((ajV250 3 13 rfl).trans ((ajV106 3 13 rfl).trans ((up2_o hV51 (by decide)).trans (ajV15 3 13 rfl))))))
                      have pq351 : (V327 43 (5 * b + 2)).toInt = ((V 43 (5 * b + 2))).toInt := congrArg Int32.toInt ((up2_o hV327 (by decide)).trans ((up2_o hV336 (by decide)).trans ((ajV250 43 (5 * b + 2) rfl).trans ((ajV106 43 (5 * b + 2) rfl).trans ((up2_o hV51 (by decide)).trans (ajV15 43 (5 * b + 2) rfl))))))
                      have pq352 : (V327 42 b).toInt = ((V 42 b)).toInt := congrArg Int32.toInt ((up2_o hV327 (by decide)).trans ((up2_o hV336 (by decide)).trans ((ajV250 42 b rfl).trans ((ajV106 42 b rfl).trans ((up2_o hV51 (by decide)).trans (ajV15 42 b rfl))))))
                      have pq353 : (V327 41 b).toInt = ((V 41 b)).toInt := congrArg Int32.toInt ((up2_o hV327 (by decide)).trans ((up2_o hV336 (by decide)).trans ((ajV250 41 b rfl).trans ((ajV106 41 b rfl).trans ((up2_o hV51 (by decide)).trans (ajV15 41 b rfl))))))
                      have ep356 : V327 84 gf = z50 := ((up2_o hV327 (by decide)).trans ((up2_o hV336 (by decide)).trans ((ajV250 84 gf rfl).trans ((ajV106 84 gf rfl).trans (up2_s hV51)))))
                      have af355 : (V327 42 b).toInt ≤ (V327 84 gf).toInt ∨ (bdp V327 b (V327 84 gf).toInt.toNat).1 = true := by rw [ep356, me341.1.bd, me341.1 42 b (by decide) (by decide)]; exact atn
                      have mo354 : MO V327 Z b gf True True True := MO.ch xlp16_0 me341 ((up2_o hV327 (by decide)).trans ((up2_o hV336 (by decide)).trans ((ajV250 67 gf rfl).trans ((ajV106 67 gf rfl).trans (up2_o hV51 (by decide)))))) ((up2_o hV327 (by decide)).trans ((up2_o hV336 (by decide)).trans ((ajV250 80 gf rfl).trans ((ajV106 80 gf rfl).trans (up2_o hV51 (by decide)))))) (fun _ => Or.inl (by omega)) (fun x h => FK.k4 (by omega) (by omega) (by omega) af355 (by omega) (fun hph => absurd hph (by omega)))
                      have op9 := OQ.op oq9
                      have cd9 := (bc28).1.2 at9.toNat hi9
                      have ka9 : Int32.toNatClampNeg (V15 84 gf) = psz (opf gB.1) at9.toNat := by have h9 := i_clamp (x := V15 84 gf) rfl (by (first | exact om_eafa9039069c r21.1 | omega)); omega
                      have c48 : (V 48 (8200 * b + (Int32.toNatClampNeg (V15 84 gf)))).toInt = enO (opf gB.1 at9.toNat) := by have h9 := cd9.1; rw [← ka9] at h9; exact (congrArg Int32.toInt (ajV15 48 (8200 * b + (Int32.toNatClampNeg (V15 84 gf))) rfl)).symm.trans h9
                      have en9 : 5 ≤ opf gB.1 at9.toNat ∧ opf gB.1 at9.toNat ≤ 9 := enO_59 op9 (by rw [← c48]; omega) (by rw [← c48]; omega)
                      obtain ⟨t8, lp9, q8, oq8⟩ := OQ.i5 oq9 en9
                      obtain ⟨x9, y9, p9, hpe⟩ : ∃ x9 y9 p9, p = x9 :: y9 :: p9 := by rcases p with _ | ⟨x, _ | ⟨y, q⟩⟩; (exact absurd lp9 (by simp)); (exact absurd lp9 (by simp)); exact ⟨x, y, q, rfl⟩
                      have tl9 : ∃ t : Nat, (V15 5 7).toInt = ((t : Nat) : Int) ∧ 2 ≤ t ∧ t ≤ 2000 := by obtain ⟨_, _, _, t, ht, t0, h1, _⟩ := id rw9; have h2 := RWl.tot (show RWl V15 gB (f2 :: gr) t from by obtain ⟨_, _, _, t7, ht7, hl7⟩ := rw9; rw [show t = t7 from by omega]; exact hl7); have h3 : totP (f2 :: gr) ≤ 2000 := (GOs.sf go2).2.1; rw [hfe, hpe] at h1; have h4 : t = t0 + (p9.length + 1 + 1) := h1; exact ⟨t, ht, by omega, by omega⟩
                      obtain ⟨tw9, ht9, tg9, tm9⟩ := tl9
                      have pq357 : (V51 5 7).toInt = ((V15 5 7)).toInt := congrArg Int32.toInt (up2_o hV51 (by decide))
                      have pq358 : (V106 5 7).toInt = ((V15 5 7)).toInt := congrArg Int32.toInt ((ajV106 5 7 rfl).trans (up2_o hV51 (by decide)))
                      exact ihlp16 z337 y14 V327 H locs ls (by (first | exact om_4c7236201e99 r12.2 klp16_0.1 f40 hz337 | omega)) (by (first | exact om_1b1f2d1cff90 klp16_1.1 klp16_1.2 | omega)) mo354 (show (gf : Int) + 1 = (V327 5 6).toInt from by (first | exact om_6e5bbaaa0e03 xlp16_1 pq338 | omega)) (show (V327 67 gf).toInt = 4 from by (first | exact om_ac6651f4ff0c xlp16_2 pq339 | omega)) (show (V327 68 gf).toInt = 0 from by (first | exact om_36161e850215 xlp16_3 pq340 | omega)) (by exfalso; omega) (by (first | exact om_5e93b663c12e hn hz337 | omega)) (agr.up (agr.up (agr.tr (agr.tr (agr.up (agr.tr agr.rf ajV15 (by decide) (by decide)) hV51 rfl) ajV106 (by decide) (by decide)) ajV250 (by decide) (by decide)) hV336 rfl) hV327 rfl) hMV327 hP hD hS (lv_sub hl [0, 3, 4, 5] rfl)
                    · skip
                      have ajV327 : agr [] [] V250 V327 := by rw [hw332]; exact agr.rf
                      refine lv_goto (tgt := 113) hx hb dX5_work_102 (by decide) ?_
                      obtain ⟨z359, ez359⟩ : ∃ y : Int32, y = y13 + 1 := ⟨_, rfl⟩
                      have hz359 : z359.toInt = y13.toInt + 1 := i_add ez359 rfl (by decide) (by (first | exact om_f150dd2841b6 r12.2 klp16_0.1 f40 | omega))
                      refine lv_iinc (v := z359) (lv' := [(3, .int z359), (5, .int z102), (4, .int (V 48 (8200 * b + (Int32.toNatClampNeg (V15 84 gf))))), (2, .int y14), (0, .ref (ad 5)), (1, .ref (Z.fa gf))]) hx hb dX5_work_113 hl (k := 2) rfl (by rw [ez359]; rfl) (by decide) rfl (fun ls hl => ?_)
                      refine lv_goto (tgt := 4) hx hb dX5_work_116 (by decide) ?_
                      have pq360 : (V327 5 6).toInt = ((V15 5 6)).toInt := congrArg Int32.toInt ((ajV327 5 6 rfl).trans ((ajV250 5 6 rfl).trans ((ajV106 5 6 rfl).trans (up2_o hV51 (by decide)))))
                      have pq361 : (V327 67 gf).toInt = ((V15 67 gf)).toInt := congrArg Int32.toInt ((ajV327 67 gf rfl).trans ((ajV250 67 gf rfl).trans ((ajV106 67 gf rfl).trans (up2_o hV51 (by decide)))))
                      have pq362 : (V327 68 gf).toInt = ((V15 68 gf)).toInt := congrArg Int32.toInt ((ajV327 68 gf rfl).trans ((ajV250 68 gf rfl).trans ((ajV106 68 gf rfl).trans (up2_o hV51 (by decide)))))
                      have me363 : ME V15 V327 gf := (ME.tr (ME.tr (ME.tr (ME.up ME.rf hV51 (Or.inl ⟨by decide, by decide, Nat.le_refl _⟩)) (ME.ag ajV106 (by decide))) (ME.ag ajV250 (by decide))) (ME.ag ajV327 (by decide)))
                      have pq364 : (V327 70 gf).toInt = ((V15 70 gf)).toInt := congrArg Int32.toInt ((ajV327 70 gf rfl).trans ((ajV250 70 gf rfl).trans ((ajV106 70 gf rfl).trans (up2_o hV51 (by decide)))))
                      have pq365 : (V327 71 gf).toInt = ((V15 71 gf)).toInt := congrArg Int32.toInt ((ajV327 71 gf rfl).trans ((ajV250 71 gf rfl).trans ((ajV106 71 gf rfl).trans (up2_o hV51 (by decide)))))
                      have pq366 : (V327 75 gf).toInt = ((V15 75 gf)).toInt := congrArg Int32.toInt ((ajV327 75 gf rfl).trans ((ajV250 75 gf rfl).trans ((ajV106 75 gf rfl).trans (up2_o hV51 (by decide)))))
                      have pq367 : (V327 76 gf).toInt = ((V15 76 gf)).toInt := congrArg Int32.toInt ((ajV327 76 gf rfl).trans ((ajV250 76 gf rfl).trans ((ajV106 76 gf rfl).trans (up2_o hV51 (by decide)))))
                      have pq368 : (V327 80 gf).toInt = ((V15 80 gf)).toInt := congrArg Int32.toInt ((ajV327 80 gf rfl).trans ((ajV250 80 gf rfl).trans ((ajV106 80 gf rfl).trans (up2_o hV51 (by decide)))))
                      have pq369 : (V327 84 gf).toInt = z50.toInt := congrArg Int32.toInt ((ajV327 84 gf rfl).trans ((ajV250 84 gf rfl).trans ((ajV106 84 gf rfl).trans (up2_s hV51))))
                      have pq370 : (V327 5 8).toInt = ((V 5 8)).toInt := congrArg Int32.toInt ((ajV327 5 8 rfl).trans ((ajV250 5 8 rfl).trans ((ajV106 5 8 rfl).trans ((up2_o hV51 (by decide)).trans (ajV15 5 8 rfl)))))
                      have pq371 : (V327 5 9).toInt = ((V15 5 9)).toInt := congrArg Int32.toInt ((ajV327 5 9 rfl).trans ((ajV250 5 9 rfl).trans ((ajV106 5 9 rfl).trans (up2_o hV51 (by decide)))))
                      have pq372 : (V327 3 13).toInt = ((V 3 13)).toInt := congrArg Int32.toInt ((ajV327 3 13 rfl).trans ((ajV250 3 13 rfl).trans ((ajV106 3 13 rfl).trans ((up2_o hV51 (by decide)).trans (ajV15 3 13 rfl)))))
                      have pq373 : (V327 43 (5 * b + 2)).toInt = ((V 43 (5 * b + 2))).toInt := congrArg Int32.toInt ((ajV327 43 (5 * b + 2) rfl).trans ((ajV250 43 (5 * b + 2) rfl).trans ((ajV106 43 (5 * b + 2) rfl).trans ((up2_o hV51 (by decide)).trans (ajV15 43 (5 * b + 2) rfl)))))
                      have pq374 : (V327 42 b).toInt = ((V 42 b)).toInt := congrArg Int32.toInt ((ajV327 42 b rfl).trans ((ajV250 42 b rfl).trans ((ajV106 42 b rfl).trans ((up2_o hV51 (by decide)).trans (ajV15 42 b rfl)))))
                      have pq375 : (V327 41 b).toInt = ((V 41 b)).toInt := congrArg Int32.toInt ((ajV327 41 b rfl).trans ((ajV250 41 b rfl).trans ((ajV106 41 b rfl).trans ((up2_o hV51 (by decide)).trans (ajV15 41 b rfl)))))
                      have af377 : (V327 42 b).toInt ≤ (V327 84 gf).toInt ∨ (bdp V327 b (V327 84 gf).toInt.toNat).1 = true := by rw [((ajV327 84 gf rfl).trans ((ajV250 84 gf rfl).trans ((ajV106 84 gf rfl).trans (up2_s hV51)))), me363.1.bd, me363.1 42 b (by decide) (by decide)]; exact atn
                      have mo376 : MO V327 Z b gf True True True := MO.ch xlp16_0 me363 ((ajV327 67 gf rfl).trans ((ajV250 67 gf rfl).trans ((ajV106 67 gf rfl).trans (up2_o hV51 (by decide))))) ((ajV327 80 gf rfl).trans ((ajV250 80 gf rfl).trans ((ajV106 80 gf rfl).trans (up2_o hV51 (by decide))))) (fun _ => Or.inl (by omega)) (fun x h => FK.k4 (by omega) (by omega) (by omega) af377 (by omega) (fun hph => absurd hph (by omega)))
                      have op9 := OQ.op oq9
                      have cd9 := (bc28).1.2 at9.toNat hi9
                      have ka9 : Int32.toNatClampNeg (V15 84 gf) = psz (opf gB.1) at9.toNat := by have h9 := i_clamp (x := V15 84 gf) rfl (by (first | exact om_eafa9039069c r21.1 | omega)); omega
                      have c48 : (V 48 (8200 * b + (Int32.toNatClampNeg (V15 84 gf)))).toInt = enO (opf gB.1 at9.toNat) := by have h9 := cd9.1; rw [← ka9] at h9; exact (congrArg Int32.toInt (ajV15 48 (8200 * b + (Int32.toNatClampNeg (V15 84 gf))) rfl)).symm.trans h9
                      have en9 : 5 ≤ opf gB.1 at9.toNat ∧ opf gB.1 at9.toNat ≤ 9 := enO_59 op9 (by rw [← c48]; omega) (by rw [← c48]; omega)
                      obtain ⟨t8, lp9, q8, oq8⟩ := OQ.i5 oq9 en9
                      obtain ⟨x9, y9, p9, hpe⟩ : ∃ x9 y9 p9, p = x9 :: y9 :: p9 := by rcases p with _ | ⟨x, _ | ⟨y, q⟩⟩; (exact absurd lp9 (by simp)); (exact absurd lp9 (by simp)); exact ⟨x, y, q, rfl⟩
                      have tl9 : ∃ t : Nat, (V15 5 7).toInt = ((t : Nat) : Int) ∧ 2 ≤ t ∧ t ≤ 2000 := by obtain ⟨_, _, _, t, ht, t0, h1, _⟩ := id rw9; have h2 := RWl.tot (show RWl V15 gB (f2 :: gr) t from by obtain ⟨_, _, _, t7, ht7, hl7⟩ := rw9; rw [show t = t7 from by omega]; exact hl7); have h3 : totP (f2 :: gr) ≤ 2000 := (GOs.sf go2).2.1; rw [hfe, hpe] at h1; have h4 : t = t0 + (p9.length + 1 + 1) := h1; exact ⟨t, ht, by omega, by omega⟩
                      obtain ⟨tw9, ht9, tg9, tm9⟩ := tl9
                      have pq378 : (V51 5 7).toInt = ((V15 5 7)).toInt := congrArg Int32.toInt (up2_o hV51 (by decide))
                      have r379 : 0 ≤ ((V15 5 7)).toInt ∧ ((V15 5 7)).toInt ≤ 2048 := hMV15 5 7
                      have pq380 : (V106 5 7).toInt = ((V15 5 7)).toInt := congrArg Int32.toInt ((ajV106 5 7 rfl).trans (up2_o hV51 (by decide)))
                      have pq381 : (V250 5 7).toInt = ((V15 5 7)).toInt := congrArg Int32.toInt ((ajV250 5 7 rfl).trans ((ajV106 5 7 rfl).trans (up2_o hV51 (by decide))))
                      exact ihlp16 z359 y14 V327 H locs ls (by (first | exact om_4c7236201e99 r12.2 klp16_0.1 f40 hz359 | omega)) (by (first | exact om_1b1f2d1cff90 klp16_1.1 klp16_1.2 | omega)) mo376 (show (gf : Int) + 1 = (V327 5 6).toInt from by (first | exact om_6e5bbaaa0e03 xlp16_1 pq360 | omega)) (show (V327 67 gf).toInt = 4 from by (first | exact om_ac6651f4ff0c xlp16_2 pq361 | omega)) (show (V327 68 gf).toInt = 0 from by (first | exact om_36161e850215 xlp16_3 pq362 | omega)) (by exfalso; (first | exact om_dcd912c4e31c hc254.1 hc331 pq380 pq381 | omega)) (by (first | exact om_5e93b663c12e hn hz359 | omega)) (agr.tr (agr.tr (agr.tr (agr.up (agr.tr agr.rf ajV15 (by decide) (by decide)) hV51 rfl) ajV106 (by decide) (by decide)) ajV250 (by decide) (by decide)) ajV327 (by decide) (by decide)) hMV327 hP hD hS (lv_sub hl [0, 3, 4, 5] rfl)
            · skip
              have f382 : 10 ≤ ((V 48 (8200 * b + (Int32.toNatClampNeg (V15 84 gf))))).toInt := b_nlt rfl (by decide) c55
              refine lv_aload_n hx hb dX5_work_64 rfl (lv_at hl 3 rfl) ?_
              refine lv_aload_n hx hb dX5_work_65 rfl (lv_at hl 4 rfl) ?_
              refine lv_iload hx hb dX5_work_66 (lv_at hl 0 rfl) ?_
              have pq383 : (V51 5 6).toInt = ((V15 5 6)).toInt := congrArg Int32.toInt (up2_o hV51 (by decide))
              have pq384 : (V51 67 gf).toInt = ((V15 67 gf)).toInt := congrArg Int32.toInt (up2_o hV51 (by decide))
              have pq385 : (V51 68 gf).toInt = ((V15 68 gf)).toInt := congrArg Int32.toInt (up2_o hV51 (by decide))
              have moa386 : MOa V51 Z b gf := MOa.up (MO.a xlp16_0 (by (first | exact om_c88e7ce0b8a2 xlp16_2 | omega)) (by (first | exact om_7ed1cb9eefb0 r12.2 pq27 | omega))) hV51
              have me387 : ME V15 V51 0 := (ME.up ME.rf hV51 (Or.inl ⟨by decide, by decide, by omega⟩))
              have hop388 : ∀ a : Nat, (a : Int) = (V51 84 gf).toInt → (a : Int) < (V51 42 b).toInt → okO V51 b ((V 48 (8200 * b + (Int32.toNatClampNeg (V15 84 gf))))).toInt (V51 48 (8200 * b + a)).toInt ∧ (bdp V51 b (a + 1)).1 = true := fun a ha hl => cd_op mup.2.2.1 me387.1 hbd (by omega) (by omega) a (by omega) hl
              have bc389 : BKc V51 b gB := BKc.b4 bc (agr.b4 (show agr [(5, 6), (5, 7), (5, 9), (5, 10), (5, 11), (5, 12), (5, 13), (5, 14)] [39, 67, 68, 69, 70, 71, 72, 73, 74, 75, 76, 77, 78, 79, 80, 81, 82, 83, 84, 85] V V51 from (agr.up (agr.tr agr.rf ajV15 (by decide) (by decide)) hV51 rfl)) (by decide))
              refine gA_int (gA_runV (As := [.ref (Z.fa gf), .int (V 48 (8200 * b + (Int32.toNatClampNeg (V15 84 gf))))]) (rest := []) (ci := 5) (q0 := 5) hx hb hml hown hg hP hD hK hS hA hnw hgk (x_worksWith9 l D ks H.size ad kk V51 L Z (V 48 (8200 * b + (Int32.toNatClampNeg (V15 84 gf)))) (b) (gf) (gB) (m2) (ga) (f2) (gr) ((V15 84 gf)) hMV51 (by omega) (show b < 2 from by (first | exact om_f940a4667dd6 hb2 | omega)) (show gf < Z.nf from by (first | exact om_8c5722e49bb1 hgf | omega)) moa386 (show (gf : Int) + 1 = (V51 5 6).toInt from by (first | exact om_6e5bbaaa0e03 xlp16_1 pq383 | omega)) (show (V51 67 gf).toInt = 4 from by (first | exact om_ac6651f4ff0c xlp16_2 pq384 | omega)) (show (V51 68 gf).toInt = 0 from by (first | exact om_36161e850215 xlp16_3 pq385 | omega)) (show (V51 84 gf).toInt ≤ 8200 from by (first | exact om_e3dfe80441bf r12.2 f47 hz50 pq54 | omega)) hop388 rwx9 bc389 (GOs.sf go2) (show (V51 84 gf).toInt = (V15 84 gf).toInt + 1 from by (first | exact om_689eeacb6d53 hz50 pq54 | omega)) (show 0 ≤ (V15 84 gf).toInt from by (first | exact om_eafa9039069c r21.1 | omega)) op7) w1478 w1480 w75 w171 w1481 rfl xgMachine hdV_yX5_worksWith ⟨Nat.le_of_ble_eq_true rfl, Nat.le_of_ble_eq_true rfl⟩ rfl hl.1 rfl (Nat.le_of_ble_eq_true rfl) dX5_work_68 ⟨z0, z0⟩) hP hD hK hS hA (fun z390 u391 H locs w392 hP hD hK hS => ?_)
              obtain ⟨V397, L398⟩ := u391
              obtain ⟨hMV397, ajV397, axL398, rgz390, t393, t394, t395, t396⟩ := w392
              have axL398 : L = L398 := Eq.symm axL398
              subst axL398
              replace hP : va_P D vwCl (xw ad kk V397 L Z) H := hP
              replace hD : va_D A (xw ad kk V397 L Z) := hD
              replace hMV397 : rgd bX V397 := hMV397
              replace ajV397 : agr [(5, 6), (5, 7), (5, 9), (5, 11), (5, 12)] [39, 68, 75, 77, 78, 84] V51 V397 := ajV397
              have agV397 : agr [(5, 6), (5, 7), (5, 9), (5, 10), (5, 11), (5, 12), (5, 13), (5, 14)] [39, 67, 68, 69, 70, 71, 72, 73, 74, 75, 76, 77, 78, 79, 80, 81, 82, 83, 84, 85] V V397 := agV51.tr ajV397 (by decide) (by decide)
              replace rgz390 : 0 ≤ z390.toInt ∧ z390.toInt ≤ 1 := rgz390
              replace t393 : Imp (z390.toInt = 1) (MO V397 Z b gf True True True) := t393
              replace t394 : Imp (z390.toInt = 0) (MJ V397 Z b) := t394
              replace t395 : Imp (z390.toInt = 1) ((V397 5 6).toInt = (V51 5 6).toInt ∧ (V397 67 gf).toInt = 4 ∧ (V397 68 gf).toInt = 0) := t395
              replace t396 : (z390.toInt = 1 ∧ ∃ mz8 fz8, stM gB (m2, ga, f2 :: gr) = (mz8, ga, fz8 :: gr) ∧ RW V397 gB (mz8, ga, fz8 :: gr)) ∨ (z390.toInt = 0 ∧ RW V397 gB (stM gB (m2, ga, f2 :: gr))) := t396
              have r399 : 0 ≤ ((V397 5 6)).toInt ∧ ((V397 5 6)).toInt ≤ 400 := hMV397 5 6
              refine lv_istore_n (lv' := [(2, .int z390), (4, .int (V 48 (8200 * b + (Int32.toNatClampNeg (V15 84 gf))))), (3, .int y13), (0, .ref (ad 5)), (1, .ref (Z.fa gf))]) hx hb dX5_work_71 rfl hl (by decide) rfl (fun ls hl => ?_)
              refine lv_goto (tgt := 113) hx hb dX5_work_72 (by decide) ?_
              by_cases hr0 : z390.toInt = 0
              · skip
                obtain ⟨z400, ez400⟩ : ∃ y : Int32, y = y13 + 1 := ⟨_, rfl⟩
                have hz400 : z400.toInt = y13.toInt + 1 := i_add ez400 rfl (by decide) (by (first | exact om_f150dd2841b6 r12.2 klp16_0.1 f40 | omega))
                refine lv_iinc (v := z400) (lv' := [(3, .int z400), (2, .int z390), (4, .int (V 48 (8200 * b + (Int32.toNatClampNeg (V15 84 gf))))), (0, .ref (ad 5)), (1, .ref (Z.fa gf))]) hx hb dX5_work_113 hl (k := 2) rfl (by rw [ez400]; rfl) (by decide) rfl (fun ls hl => ?_)
                refine lv_goto (tgt := 4) hx hb dX5_work_116 (by decide) ?_
                refine lv_iload_n hx hb dX5_work_4 rfl (lv_at hl 1 rfl) ?_
                refine lv_if_eq (tgt := 119) hx hb dX5_work_5 (by decide) (fun c401 => ?_) (fun c401 => ?_)
                · skip
                  have f402 : z390.toInt = 0 := b_eq rfl (by decide) c401
                  refine W.know (fun kr1 kr2 => ?_)
                  refine W.widen (k := zcc Z) (n := zss Z) (Nat.sub_le _ _) (Nat.sub_le _ _) ?_
                  exact W.vret hx hb hr (fun t ht hW => ⟨⟨(V397, L, Z), rfl, ⟨hMV397, agV397, rfl, zoZ, (Imp.go t394 (by (first | exact om_b1799fcf2d63 rgz390.1 f402 | omega))), ⟨n9 + 1, by omega, (by rw [rnM_add, er9]; exact (t396.resolve_left (fun h9 => by have h8 := h9.1; omega)).2)⟩⟩, ⟨by rw [ht]; exact hP, va_K.moved hW.alike hK, hD⟩, by rw [ht]; exact kr1, by rw [ht]; exact kr2⟩, hS.F ht⟩) hS.2.2 dX5_work_119
                · skip
                  have f403 : z390.toInt ≠ 0 := b_neq rfl (by decide) c401
                  exfalso; first | omega | ((try (have i_t395 := Imp.go t395 (by omega))); omega)
              · skip
                have hr1 : z390.toInt = 1 := by omega
                have mo404 : MO V397 Z b gf True True True := Imp.go t393 hr1
                have hpk := Imp.go t395 hr1
                obtain ⟨z405, ez405⟩ : ∃ y : Int32, y = y13 + 1 := ⟨_, rfl⟩
                have hz405 : z405.toInt = y13.toInt + 1 := i_add ez405 rfl (by decide) (by (first | exact om_f150dd2841b6 r12.2 klp16_0.1 f40 | omega))
                refine lv_iinc (v := z405) (lv' := [(3, .int z405), (2, .int z390), (4, .int (V 48 (8200 * b + (Int32.toNatClampNeg (V15 84 gf))))), (0, .ref (ad 5)), (1, .ref (Z.fa gf))]) hx hb dX5_work_113 hl (k := 2) rfl (by rw [ez405]; rfl) (by decide) rfl (fun ls hl => ?_)
                refine lv_goto (tgt := 4) hx hb dX5_work_116 (by decide) ?_
                have pq406 : (V397 67 gf).toInt = ((V15 67 gf)).toInt := congrArg Int32.toInt ((ajV397 67 gf rfl).trans (up2_o hV51 (by decide)))
                exact ihlp16 z405 z390 V397 H locs ls (by first | exact om_4c7236201e99 r12.2 klp16_0.1 f40 hz405 | first | omega | ((try (have i_t395 := Imp.go t395 (by omega))); omega)) (by first | exact om_e6bad570a1f1 rgz390.2 hr1 | first | omega | ((try (have i_t395 := Imp.go t395 (by omega))); omega)) mo404 (show (gf : Int) + 1 = (V397 5 6).toInt from by first | exact om_697b823fa352 xlp16_1 pq383 ((Imp.go t395 (hr1)).1) | first | omega | ((try (have i_t395 := Imp.go t395 (by omega))); omega)) (show (V397 67 gf).toInt = 4 from by first | exact om_ac6651f4ff0c xlp16_2 pq406 | first | omega | ((try (have i_t395 := Imp.go t395 (by omega))); omega)) (show (V397 68 gf).toInt = 0 from by first | exact om_b66ba74381d5 ((Imp.go t395 (hr1)).2.2) | first | omega | ((try (have i_t395 := Imp.go t395 (by omega))); omega)) (by obtain ⟨m3, f3, e3, r3⟩ := (t396.resolve_right (fun h9 => by have h8 := h9.1; omega)).2; exact ⟨n9 + 1, m3, f3, (by rw [rnM_add, er9]; exact e3), r3, (by rw [← e3]; exact GOs.nx go2), Or.inr (by omega)⟩) (by first | exact om_5e93b663c12e hn hz405 | first | omega | ((try (have i_t395 := Imp.go t395 (by omega))); omega)) (agr.tr (agr.up (agr.tr agr.rf ajV15 (by decide) (by decide)) hV51 rfl) ajV397 (by decide) (by decide)) hMV397 hP hD hS (lv_sub hl [0, 1, 3, 4] rfl)
  have r407 : Int32.toInt 0 = 0 := by decide
  have r408 : Int32.toInt 1 = 1 := by decide
  exact lp16 ((8200 - (Int32.toInt 0) + 1 : Int).toNat) 0 1 V H locs ls (by decide) (by decide) mo (show (gf : Int) + 1 = (V 5 6).toInt from by (first | exact om_b7eb86266639 gd | omega)) (show (V 67 gf).toInt = 4 from by (first | exact om_c88e7ce0b8a2 gk | omega)) (show (V 68 gf).toInt = 0 from by (first | exact om_b66ba74381d5 gph | omega)) ⟨0, gm, gfr, rfl, rwq, go9, Or.inl (by decide)⟩ (by (first | exact om_fef0be1a3cbf | omega)) agr.rf hMV hP hD hS (lv_sub hl [0, 1, 2, 3] rfl)
