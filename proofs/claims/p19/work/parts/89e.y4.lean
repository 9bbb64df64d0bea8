section
/-! a token, what the reference holds of it -/
theorem sg_all : ∀ i, i < 12 → (sgb i).toInt = 123 ∨ (sgb i).toInt = 125 ∨ (sgb i).toInt = 40 ∨ (sgb i).toInt = 41 ∨ (sgb i).toInt = 44 ∨ (sgb i).toInt = 59 ∨ (sgb i).toInt = 61 ∨ (sgb i).toInt = 60 ∨ (sgb i).toInt = 43 ∨ (sgb i).toInt = 45 ∨ (sgb i).toInt = 42 ∨ (sgb i).toInt = 46 := by decide +kernel
theorem sg_bck : ∀ j, j ∈ [123, 125, 40, 41, 44, 59, 61, 60, 43, 45, 42, 46] → isSg (nI j) := by
  intro j hj
  simp only [List.mem_cons, List.not_mem_nil, or_false] at hj
  rcases hj with h | h | h | h | h | h | h | h | h | h | h | h <;> subst h
  · exact ⟨0, by decide, by decide⟩
  · exact ⟨1, by decide, by decide⟩
  · exact ⟨2, by decide, by decide⟩
  · exact ⟨3, by decide, by decide⟩
  · exact ⟨4, by decide, by decide⟩
  · exact ⟨5, by decide, by decide⟩
  · exact ⟨6, by decide, by decide⟩
  · exact ⟨7, by decide, by decide⟩
  · exact ⟨8, by decide, by decide⟩
  · exact ⟨9, by decide, by decide⟩
  · exact ⟨10, by decide, by decide⟩
  · exact ⟨11, by decide, by decide⟩
theorem sg_yes {x : Int32} {j : Nat} (hj : j ∈ [123, 125, 40, 41, 44, 59, 61, 60, 43, 45, 42, 46]) (h : x.toInt = (j : Int)) (hb : j < 127) : isSg x := by
  have e : x = nI j := Int32.toInt_inj.mp (by rw [nI_toInt (by omega)]; exact h)
  rw [e]
  exact sg_bck j hj
theorem sg_no {x : Int32} (h : x.toInt ≠ 123 ∧ x.toInt ≠ 125 ∧ x.toInt ≠ 40 ∧ x.toInt ≠ 41 ∧ x.toInt ≠ 44 ∧ x.toInt ≠ 59 ∧ x.toInt ≠ 61 ∧ x.toInt ≠ 60 ∧ x.toInt ≠ 43 ∧ x.toInt ≠ 45 ∧ x.toInt ≠ 42 ∧ x.toInt ≠ 46) : ¬ isSg x := by
  intro ⟨i, hi, q⟩
  have z := sg_all i hi
  rw [q] at z
  omega
theorem rk_l : ∀ n, n < 127 → nI n - 97 + 1 = nI n - 96 ∧ nI n - 48 + 27 = nI n - 21 := by decide +kernel
theorem rk_cd {x : Int32} (h : isLD x) : (if 97 ≤ x.toInt ∧ x.toInt ≤ 122 then x - 96 else x - 21).toInt64 = cd x := by
  have hx : 0 ≤ x.toInt ∧ x.toInt ≤ 126 := by
    rcases h with h | h
    · have a := h.1
      have b := h.2
      omega
    · have a := h.1
      have b := h.2
      omega
  have e := rk_l x.toInt.toNat (by omega)
  rw [← tp_nI hx] at e
  unfold cd
  rcases h with h | h
  · have h2 : 97 ≤ x.toInt ∧ x.toInt ≤ 122 := h
    rw [if_pos h2, if_neg (by omega), e.1]
  · have h2 : 48 ≤ x.toInt ∧ x.toInt ≤ 57 := h
    rw [if_neg (by omega), if_pos h2, e.2]
def RCt (f : Nat → Int32) (s e : Nat) (so : Int) (w : Int64) : Prop :=
  (isDg (f s) → (9 < e - s → so = 4) ∧ (e - s ≤ 9 → so = 2 ∧ w = nv f s (e - s))) ∧ (isLt (f s) → (12 < e - s → so = 4) ∧ (e - s ≤ 12 → so = 1 ∧ w = wv f s (e - s))) ∧ (¬ isDg (f s) → ¬ isLt (f s) → ((isSg (f s) ∧ so = 3) ∨ (¬ isSg (f s) ∧ so = 4)) ∧ w = (f s).toInt64)
def RTK (f : Nat → Int32) (S E : Nat → Nat) (V : Vf) (L : Lf) (t : Nat) : Prop := ∀ j, j < t → (V 5 j).toInt = (S j : Int) ∧ RCt f (S j) (E (j + 1)) (V 4 j).toInt (L 6 j)
def RTq (V A : Vf) (B : Lf) (t p : Nat) : Prop := ∃ S E : Nat → Nat, TKS (V 1) (V 0 2).toInt.toNat S E t p ∧ RTK (V 1) S E A B t
theorem RTq.z {V A : Vf} {B : Lf} : RTq V A B 0 0 := ⟨fun _ => 0, fun _ => 0, ⟨rfl, fun j hj => absurd hj (Nat.not_lt_zero _), Nat.le_refl _, Nat.zero_le _, fun k _ b => absurd b (Nat.not_lt_zero _)⟩, fun j hj => absurd hj (Nat.not_lt_zero _)⟩
theorem RTq.bl {V A : Vf} {B : Lf} {t p p2 : Nat} (h : RTq V A B t p) (e : p2 = p + 1) (hp : p < (V 0 2).toInt.toNat) (b : isBl (V 1 p)) : RTq V A B t p2 := by
  obtain ⟨S, E, k1, k2⟩ := h
  exact ⟨S, E, by rw [e]; exact k1.bl hp b, k2⟩
theorem RTq.tk {V A A1 A2 : Vf} {B M : Lf} {t t1 t2 p e e2 : Nat} {z so : Int32} {v : Int64} (h : RTq V A B t p) (h1 : A1 = up2 A 5 t1 z) (h2 : A2 = up2 A1 4 t1 so) (hL : M = upL B 6 t1 v) (q0 : t1 = t) (q1 : t2 = t + 1) (q2 : e2 = e) (hz : z.toInt = (p : Int)) (b : ¬ isBl (V 1 p)) (te : TE (V 1) (V 0 2).toInt.toNat p e) (rc : RCt (V 1) p e so.toInt v) : RTq V A2 M t2 e2 := by
  obtain ⟨S, E, k1, k2⟩ := h
  subst q0 q1 q2
  have f4 : A2 4 = upd (A 4) t1 so := by rw [up2_fn h2, (up2_fo h1 (by decide) : A1 4 = A 4)]
  have f5 : A2 5 = upd (A 5) t1 z := by rw [(up2_fo h2 (by decide) : A2 5 = A1 5), up2_fn h1]
  refine ⟨upN S t1 p, upN E (t1 + 1) e2, k1.tk b te, fun j hj => ?_⟩
  by_cases q : j = t1
  · rw [q, upN_s, upN_s, f4, f5, upL_s hL, show upd (A 4) t1 so t1 = so from if_pos rfl, show upd (A 5) t1 z t1 = z from if_pos rfl]
    exact ⟨hz, rc⟩
  · have m6 : M 6 j = B 6 j := by
      rw [hL]
      unfold upL vp_updL
      rw [if_pos rfl, if_neg q]
    rw [upN_o _ _ _ q, upN_o _ _ _ (by omega), f4, f5, m6, show upd (A 4) t1 so j = A 4 j from if_neg q, show upd (A 5) t1 z j = A 5 j from if_neg q]
    exact k2 j (by omega)
/-- all tokens are cut -/
def RTE (V W : Vf) (M : Lf) : Prop := ∃ t : Nat, t ≤ 4000 ∧ RTq V W M t (V 0 2).toInt.toNat ∧ W 4 t = 0 ∧ W 5 t = V 0 2
theorem RTE.mk {V A A1 A2 W : Vf} {M : Lf} {t t1 p : Nat} {z : Int32} (h : RTq V A M t p) (h1 : A1 = up2 A 4 t1 0) (h2 : A2 = up2 A1 5 t1 z) (w4 : W 4 = A2 4) (w5 : W 5 = A2 5) (q0 : t1 = t) (q1 : p = (V 0 2).toInt.toNat) (hz : z = V 0 2) (ht : t ≤ 4000) : RTE V W M := by
  obtain ⟨S, E, k1, k2⟩ := h
  subst q0 q1 hz
  have f4 : W 4 = upd (A 4) t1 0 := by rw [w4, (up2_fo h2 (by decide) : A2 4 = A1 4), up2_fn h1]
  have f5 : W 5 = upd (A 5) t1 (V 0 2) := by rw [w5, up2_fn h2, (up2_fo h1 (by decide) : A1 5 = A 5)]
  refine ⟨t1, ht, ⟨S, E, k1, fun j hj => ?_⟩, by rw [f4]; exact if_pos rfl, by rw [f5]; exact if_pos rfl⟩
  rw [f4, f5, show upd (A 4) t1 0 j = A 4 j from if_neg (by omega), show upd (A 5) t1 (V 0 2) j = A 5 j from if_neg (by omega)]
  exact k2 j hj


abbrev r_s_isSignOf2 : Room := { frames := 0, cells := 0, slots := 0, locals := 0 }
abbrev q_s_isSignOf2 (D : va_G) (p0 : Int32) (A : Nat → Prop) : Array Value → State → Outcome → State → Prop := va_Qi (fun (r : Int32) (_ : Unit) => (0 ≤ r.toInt ∧ r.toInt ≤ 1) ∧ ((r.toInt = 1 ∧ isSg p0) ∨ (r.toInt = 0 ∧ ¬ isSg p0))) (fun _ t => gq D A [] [] t) A
set_option maxHeartbeats 4000000 in
set_option maxRecDepth 100000 in
theorem s_isSignOf2 (l : Launch) (D : va_G) (ks : KS) (sz : Nat) (p0 : Int32)  : Met l yX12_isSignOf (Cond.code yX12_isSignOf cX12_isSignOf 1 (some .boolean) :: GW) r_s_isSignOf2 (va_Pc [.int p0] (gp D ks ([]) ([]) sz)) (q_s_isSignOf2 D p0 (va_A ([]) sz)) 0 0 (va_A ([]) sz) := by
  refine g_met (q_s_isSignOf2 D p0) (by decide) (Nat.le_of_ble_eq_true rfl) ?_
  intro p e s m below meth c A ls H locs hx hb hr hml hown hg hlocks hin hnw hgk hP hK hD hS hA hl
  have hown : s.vm.findClass RX12 = some m.cls := hown
  have hl : lv_has ls 1 [(0, .int p0)] := hl
  refine lv_iload_n hx hb dX12_isSignOf_0 rfl (lv_at hl 0 rfl) ?_
  refine lv_bipush (v := 123) hx hb dX12_isSignOf_1 (by decide) ?_
  refine lv_icmp_eq (tgt := 72) hx hb dX12_isSignOf_3 (by decide) (fun c1 => ?_) (fun c1 => ?_)
  · skip
    have f2 : p0.toInt = 123 := b_eq rfl (by decide) c1
    refine lv_iconst (v := 1) hx hb dX12_isSignOf_72 (by decide) ?_
    refine lv_goto (tgt := 77) hx hb dX12_isSignOf_73 (by decide) ?_
    exact W.zret (v := 1) hx hb hr rfl (fun t ht hW => ⟨⟨1, (), rfl, ⟨(by decide), (Or.inl ⟨by decide, sg_yes (j := 123) (by decide) (by omega) (by decide)⟩)⟩, by rw [ht]; exact hP, va_K.moved hW.alike hK, hD⟩, hS.F ht⟩) hS.2.2 dX12_isSignOf_77
  · skip
    have f3 : p0.toInt ≠ 123 := b_neq rfl (by decide) c1
    refine lv_iload_n hx hb dX12_isSignOf_6 rfl (lv_at hl 0 rfl) ?_
    refine lv_bipush (v := 125) hx hb dX12_isSignOf_7 (by decide) ?_
    refine lv_icmp_eq (tgt := 72) hx hb dX12_isSignOf_9 (by decide) (fun c4 => ?_) (fun c4 => ?_)
    · skip
      have f5 : p0.toInt = 125 := b_eq rfl (by decide) c4
      refine lv_iconst (v := 1) hx hb dX12_isSignOf_72 (by decide) ?_
      refine lv_goto (tgt := 77) hx hb dX12_isSignOf_73 (by decide) ?_
      exact W.zret (v := 1) hx hb hr rfl (fun t ht hW => ⟨⟨1, (), rfl, ⟨(by decide), (Or.inl ⟨by decide, sg_yes (j := 125) (by decide) (by omega) (by decide)⟩)⟩, by rw [ht]; exact hP, va_K.moved hW.alike hK, hD⟩, hS.F ht⟩) hS.2.2 dX12_isSignOf_77
    · skip
      have f6 : p0.toInt ≠ 125 := b_neq rfl (by decide) c4
      refine lv_iload_n hx hb dX12_isSignOf_12 rfl (lv_at hl 0 rfl) ?_
      refine lv_bipush (v := 40) hx hb dX12_isSignOf_13 (by decide) ?_
      refine lv_icmp_eq (tgt := 72) hx hb dX12_isSignOf_15 (by decide) (fun c7 => ?_) (fun c7 => ?_)
      · skip
        have f8 : p0.toInt = 40 := b_eq rfl (by decide) c7
        refine lv_iconst (v := 1) hx hb dX12_isSignOf_72 (by decide) ?_
        refine lv_goto (tgt := 77) hx hb dX12_isSignOf_73 (by decide) ?_
        exact W.zret (v := 1) hx hb hr rfl (fun t ht hW => ⟨⟨1, (), rfl, ⟨(by decide), (Or.inl ⟨by decide, sg_yes (j := 40) (by decide) (by omega) (by decide)⟩)⟩, by rw [ht]; exact hP, va_K.moved hW.alike hK, hD⟩, hS.F ht⟩) hS.2.2 dX12_isSignOf_77
      · skip
        have f9 : p0.toInt ≠ 40 := b_neq rfl (by decide) c7
        refine lv_iload_n hx hb dX12_isSignOf_18 rfl (lv_at hl 0 rfl) ?_
        refine lv_bipush (v := 41) hx hb dX12_isSignOf_19 (by decide) ?_
        refine lv_icmp_eq (tgt := 72) hx hb dX12_isSignOf_21 (by decide) (fun c10 => ?_) (fun c10 => ?_)
        · skip
          have f11 : p0.toInt = 41 := b_eq rfl (by decide) c10
          refine lv_iconst (v := 1) hx hb dX12_isSignOf_72 (by decide) ?_
          refine lv_goto (tgt := 77) hx hb dX12_isSignOf_73 (by decide) ?_
          exact W.zret (v := 1) hx hb hr rfl (fun t ht hW => ⟨⟨1, (), rfl, ⟨(by decide), (Or.inl ⟨by decide, sg_yes (j := 41) (by decide) (by omega) (by decide)⟩)⟩, by rw [ht]; exact hP, va_K.moved hW.alike hK, hD⟩, hS.F ht⟩) hS.2.2 dX12_isSignOf_77
        · skip
          have f12 : p0.toInt ≠ 41 := b_neq rfl (by decide) c10
          refine lv_iload_n hx hb dX12_isSignOf_24 rfl (lv_at hl 0 rfl) ?_
          refine lv_bipush (v := 44) hx hb dX12_isSignOf_25 (by decide) ?_
          refine lv_icmp_eq (tgt := 72) hx hb dX12_isSignOf_27 (by decide) (fun c13 => ?_) (fun c13 => ?_)
          · skip
            have f14 : p0.toInt = 44 := b_eq rfl (by decide) c13
            refine lv_iconst (v := 1) hx hb dX12_isSignOf_72 (by decide) ?_
            refine lv_goto (tgt := 77) hx hb dX12_isSignOf_73 (by decide) ?_
            exact W.zret (v := 1) hx hb hr rfl (fun t ht hW => ⟨⟨1, (), rfl, ⟨(by decide), (Or.inl ⟨by decide, sg_yes (j := 44) (by decide) (by omega) (by decide)⟩)⟩, by rw [ht]; exact hP, va_K.moved hW.alike hK, hD⟩, hS.F ht⟩) hS.2.2 dX12_isSignOf_77
          · skip
            have f15 : p0.toInt ≠ 44 := b_neq rfl (by decide) c13
            refine lv_iload_n hx hb dX12_isSignOf_30 rfl (lv_at hl 0 rfl) ?_
            refine lv_bipush (v := 59) hx hb dX12_isSignOf_31 (by decide) ?_
            refine lv_icmp_eq (tgt := 72) hx hb dX12_isSignOf_33 (by decide) (fun c16 => ?_) (fun c16 => ?_)
            · skip
              have f17 : p0.toInt = 59 := b_eq rfl (by decide) c16
              refine lv_iconst (v := 1) hx hb dX12_isSignOf_72 (by decide) ?_
              refine lv_goto (tgt := 77) hx hb dX12_isSignOf_73 (by decide) ?_
              exact W.zret (v := 1) hx hb hr rfl (fun t ht hW => ⟨⟨1, (), rfl, ⟨(by decide), (Or.inl ⟨by decide, sg_yes (j := 59) (by decide) (by omega) (by decide)⟩)⟩, by rw [ht]; exact hP, va_K.moved hW.alike hK, hD⟩, hS.F ht⟩) hS.2.2 dX12_isSignOf_77
            · skip
              have f18 : p0.toInt ≠ 59 := b_neq rfl (by decide) c16
              refine lv_iload_n hx hb dX12_isSignOf_36 rfl (lv_at hl 0 rfl) ?_
              refine lv_bipush (v := 61) hx hb dX12_isSignOf_37 (by decide) ?_
              refine lv_icmp_eq (tgt := 72) hx hb dX12_isSignOf_39 (by decide) (fun c19 => ?_) (fun c19 => ?_)
              · skip
                have f20 : p0.toInt = 61 := b_eq rfl (by decide) c19
                refine lv_iconst (v := 1) hx hb dX12_isSignOf_72 (by decide) ?_
                refine lv_goto (tgt := 77) hx hb dX12_isSignOf_73 (by decide) ?_
                exact W.zret (v := 1) hx hb hr rfl (fun t ht hW => ⟨⟨1, (), rfl, ⟨(by decide), (Or.inl ⟨by decide, sg_yes (j := 61) (by decide) (by omega) (by decide)⟩)⟩, by rw [ht]; exact hP, va_K.moved hW.alike hK, hD⟩, hS.F ht⟩) hS.2.2 dX12_isSignOf_77
              · skip
                have f21 : p0.toInt ≠ 61 := b_neq rfl (by decide) c19
                refine lv_iload_n hx hb dX12_isSignOf_42 rfl (lv_at hl 0 rfl) ?_
                refine lv_bipush (v := 60) hx hb dX12_isSignOf_43 (by decide) ?_
                refine lv_icmp_eq (tgt := 72) hx hb dX12_isSignOf_45 (by decide) (fun c22 => ?_) (fun c22 => ?_)
                · skip
                  have f23 : p0.toInt = 60 := b_eq rfl (by decide) c22
                  refine lv_iconst (v := 1) hx hb dX12_isSignOf_72 (by decide) ?_
                  refine lv_goto (tgt := 77) hx hb dX12_isSignOf_73 (by decide) ?_
                  exact W.zret (v := 1) hx hb hr rfl (fun t ht hW => ⟨⟨1, (), rfl, ⟨(by decide), (Or.inl ⟨by decide, sg_yes (j := 60) (by decide) (by omega) (by decide)⟩)⟩, by rw [ht]; exact hP, va_K.moved hW.alike hK, hD⟩, hS.F ht⟩) hS.2.2 dX12_isSignOf_77
                · skip
                  have f24 : p0.toInt ≠ 60 := b_neq rfl (by decide) c22
                  refine lv_iload_n hx hb dX12_isSignOf_48 rfl (lv_at hl 0 rfl) ?_
                  refine lv_bipush (v := 43) hx hb dX12_isSignOf_49 (by decide) ?_
                  refine lv_icmp_eq (tgt := 72) hx hb dX12_isSignOf_51 (by decide) (fun c25 => ?_) (fun c25 => ?_)
                  · skip
                    have f26 : p0.toInt = 43 := b_eq rfl (by decide) c25
                    refine lv_iconst (v := 1) hx hb dX12_isSignOf_72 (by decide) ?_
                    refine lv_goto (tgt := 77) hx hb dX12_isSignOf_73 (by decide) ?_
                    exact W.zret (v := 1) hx hb hr rfl (fun t ht hW => ⟨⟨1, (), rfl, ⟨(by decide), (Or.inl ⟨by decide, sg_yes (j := 43) (by decide) (by omega) (by decide)⟩)⟩, by rw [ht]; exact hP, va_K.moved hW.alike hK, hD⟩, hS.F ht⟩) hS.2.2 dX12_isSignOf_77
                  · skip
                    have f27 : p0.toInt ≠ 43 := b_neq rfl (by decide) c25
                    refine lv_iload_n hx hb dX12_isSignOf_54 rfl (lv_at hl 0 rfl) ?_
                    refine lv_bipush (v := 45) hx hb dX12_isSignOf_55 (by decide) ?_
                    refine lv_icmp_eq (tgt := 72) hx hb dX12_isSignOf_57 (by decide) (fun c28 => ?_) (fun c28 => ?_)
                    · skip
                      have f29 : p0.toInt = 45 := b_eq rfl (by decide) c28
                      refine lv_iconst (v := 1) hx hb dX12_isSignOf_72 (by decide) ?_
                      refine lv_goto (tgt := 77) hx hb dX12_isSignOf_73 (by decide) ?_
                      exact W.zret (v := 1) hx hb hr rfl (fun t ht hW => ⟨⟨1, (), rfl, ⟨(by decide), (Or.inl ⟨by decide, sg_yes (j := 45) (by decide) (by omega) (by decide)⟩)⟩, by rw [ht]; exact hP, va_K.moved hW.alike hK, hD⟩, hS.F ht⟩) hS.2.2 dX12_isSignOf_77
                    · skip
                      have f30 : p0.toInt ≠ 45 := b_neq rfl (by decide) c28
                      refine lv_iload_n hx hb dX12_isSignOf_60 rfl (lv_at hl 0 rfl) ?_
                      refine lv_bipush (v := 42) hx hb dX12_isSignOf_61 (by decide) ?_
                      refine lv_icmp_eq (tgt := 72) hx hb dX12_isSignOf_63 (by decide) (fun c31 => ?_) (fun c31 => ?_)
                      · skip
                        have f32 : p0.toInt = 42 := b_eq rfl (by decide) c31
                        refine lv_iconst (v := 1) hx hb dX12_isSignOf_72 (by decide) ?_
                        refine lv_goto (tgt := 77) hx hb dX12_isSignOf_73 (by decide) ?_
                        exact W.zret (v := 1) hx hb hr rfl (fun t ht hW => ⟨⟨1, (), rfl, ⟨(by decide), (Or.inl ⟨by decide, sg_yes (j := 42) (by decide) (by omega) (by decide)⟩)⟩, by rw [ht]; exact hP, va_K.moved hW.alike hK, hD⟩, hS.F ht⟩) hS.2.2 dX12_isSignOf_77
                      · skip
                        have f33 : p0.toInt ≠ 42 := b_neq rfl (by decide) c31
                        refine lv_iload_n hx hb dX12_isSignOf_66 rfl (lv_at hl 0 rfl) ?_
                        refine lv_bipush (v := 46) hx hb dX12_isSignOf_67 (by decide) ?_
                        refine lv_icmp_ne (tgt := 76) hx hb dX12_isSignOf_69 (by decide) (fun c34 => ?_) (fun c34 => ?_)
                        · skip
                          have f35 : p0.toInt ≠ 46 := b_neq rfl (by decide) c34
                          refine lv_iconst (v := 0) hx hb dX12_isSignOf_76 (by decide) ?_
                          exact W.zret (v := 0) hx hb hr rfl (fun t ht hW => ⟨⟨0, (), rfl, ⟨(by decide), (Or.inr ⟨by decide, sg_no (by omega)⟩)⟩, by rw [ht]; exact hP, va_K.moved hW.alike hK, hD⟩, hS.F ht⟩) hS.2.2 dX12_isSignOf_77
                        · skip
                          have f36 : p0.toInt = 46 := b_eq rfl (by decide) c34
                          refine lv_iconst (v := 1) hx hb dX12_isSignOf_72 (by decide) ?_
                          refine lv_goto (tgt := 77) hx hb dX12_isSignOf_73 (by decide) ?_
                          exact W.zret (v := 1) hx hb hr rfl (fun t ht hW => ⟨⟨1, (), rfl, ⟨(by decide), (Or.inl ⟨by decide, sg_yes (j := 46) (by decide) (by omega) (by decide)⟩)⟩, by rw [ht]; exact hP, va_K.moved hW.alike hK, hD⟩, hS.F ht⟩) hS.2.2 dX12_isSignOf_77
abbrev r_s_rank2 : Room := { frames := 1, cells := 0, slots := 0, locals := 20 }
abbrev q_s_rank2 (D : va_G) (p0 : Int32) (A : Nat → Prop) : Array Value → State → Outcome → State → Prop := va_Qi (fun (r : Int32) (_ : Unit) => (r = (if 97 ≤ p0.toInt ∧ p0.toInt ≤ 122 then p0 - 96 else p0 - 21))) (fun _ t => gq D A [] [] t) A
set_option maxHeartbeats 4000000 in
set_option maxRecDepth 100000 in
theorem s_rank2 (l : Launch) (D : va_G) (ks : KS) (sz : Nat) (p0 : Int32)  : Met l yX12_rank (Cond.code yX12_rank cX12_rank 1 (some .int) :: GW) r_s_rank2 (va_Pc [.int p0] (gp D ks ([]) ([]) sz)) (q_s_rank2 D p0 (va_A ([]) sz)) 0 0 (va_A ([]) sz) := by
  refine g_met (q_s_rank2 D p0) (by decide) (Nat.le_of_ble_eq_true rfl) ?_
  intro p e s m below meth c A ls H locs hx hb hr hml hown hg hlocks hin hnw hgk hP hK hD hS hA hl
  have hown : s.vm.findClass RX12 = some m.cls := hown
  have hl : lv_has ls 1 [(0, .int p0)] := hl
  refine lv_iload_n hx hb dX12_rank_0 rfl (lv_at hl 0 rfl) ?_
  refine gE_int (g_runS (As := [.int p0]) (rest := []) (wc := []) (tc := []) hx hb hml hown hg gw_self hP hD hK hS hA hnw hgk [] [] (by decide) rfl rfl (s_isLetter l D ks H.size p0 ) w1703 w1704 w172 w1705 hdS_yX12_isLetter ⟨Nat.le_of_ble_eq_true rfl, Nat.le_of_ble_eq_true rfl⟩ rfl hl.1 rfl (Nat.le_of_ble_eq_true rfl) dX12_rank_1 ⟨Nat.le_of_ble_eq_true rfl, Nat.le_of_ble_eq_true rfl⟩) hP hD hK hS hA (fun z1 u2 H locs w3 hP hD hK hS => ?_)
  obtain ⟨rgz1, t4, t5⟩ := w3
  have rgz1 : 0 ≤ z1.toInt ∧ z1.toInt ≤ 1 := rgz1
  have t4 : Imp (z1.toInt = 1) (97 ≤ p0.toInt ∧ p0.toInt ≤ 122) := t4
  have t5 : Imp (z1.toInt = 0) (p0.toInt < 97 ∨ 122 < p0.toInt) := t5
  refine lv_if_eq (tgt := 14) hx hb dX12_rank_4 (by decide) (fun c6 => ?_) (fun c6 => ?_)
  · skip
    have f7 : z1.toInt = 0 := b_eq rfl (by decide) c6
    refine lv_iload_n hx hb dX12_rank_14 rfl (lv_at hl 0 rfl) ?_
    refine lv_bipush (v := 21) hx hb dX12_rank_15 (by decide) ?_
    refine lv_isub hx hb dX12_rank_17 ?_
    have r8 := i_full p0
    refine lv_topi (fun z9 ez9 => ?_)
    have hz9 : Imp (-2147483648 ≤ p0.toInt - 21 ∧ p0.toInt - 21 ≤ 2147483647) (z9.toInt = p0.toInt - 21) := Imp.mk (fun hp => i_sub ez9 rfl (by decide) hp)
    exact W.iret (v := z9) hx hb hr (fun t ht hW => ⟨⟨z9, (), rfl, (by rw [if_neg (by have q := Imp.go t5 (by (first | exact om_b1799fcf2d63 rgz1.1 f7 | omega)); omega), ez9]), by rw [ht]; exact hP, va_K.moved hW.alike hK, hD⟩, hS.F ht⟩) hS.2.2 dX12_rank_18
  · skip
    have f10 : z1.toInt ≠ 0 := b_neq rfl (by decide) c6
    refine lv_iload_n hx hb dX12_rank_7 rfl (lv_at hl 0 rfl) ?_
    refine lv_bipush (v := 96) hx hb dX12_rank_8 (by decide) ?_
    refine lv_isub hx hb dX12_rank_10 ?_
    have r11 := i_full p0
    refine lv_topi (fun z12 ez12 => ?_)
    have hz12 : Imp (-2147483648 ≤ p0.toInt - 96 ∧ p0.toInt - 96 ≤ 2147483647) (z12.toInt = p0.toInt - 96) := Imp.mk (fun hp => i_sub ez12 rfl (by decide) hp)
    refine lv_goto (tgt := 18) hx hb dX12_rank_11 (by decide) ?_
    exact W.iret (v := z12) hx hb hr (fun t ht hW => ⟨⟨z12, (), rfl, (by rw [if_pos (Imp.go t4 (by (first | exact om_2ebe32d50835 rgz1.1 rgz1.2 f10 | omega))), ez12]), by rw [ht]; exact hP, va_K.moved hW.alike hK, hD⟩, hS.F ht⟩) hS.2.2 dX12_rank_18
abbrev r_s_cutAll2 : Room := { frames := 2, cells := 0, slots := 0, locals := 40 }
abbrev q_s_cutAll2 (D : va_G) (ks : KS) (ad : Nat → Nat) (kk : Nat → ClassId) (V : Vf) (L : Lf) (A : Nat → Prop) : Array Value → State → Outcome → State → Prop := va_Qv (fun (u : Vf × Lf) => rgd bM u.1 ∧ agr [(0, 2), (0, 3), (0, 7), (0, 8)] [4, 5, 6] V u.1 ∧ agL [4, 5, 6] L u.2 ∧ ((u.1 0 8).toInt = 0) ∧ ((u.1 0 7).toInt = 0) ∧ ((u.1 0 2).toInt = 0) ∧ (RTE V u.1 u.2)) (fun u t => gq D A (mw ad kk ks.1 u.1 u.2) (mty kk) t) A
set_option maxHeartbeats 4000000 in
set_option maxRecDepth 100000 in
theorem s_cutAll2 (l : Launch) (D : va_G) (ks : KS) (sz : Nat) (ad : Nat → Nat) (kk : Nat → ClassId) (V : Vf) (L : Lf)  (hMV : rgd bM V)  : Met l yX12_cutAll (Cond.code yX12_cutAll cX12_cutAll 7 none :: GW) r_s_cutAll2 (va_Pc [.ref (ad 0)] (gp D ks (mw ad kk ks.1 V L) (mty kk) sz)) (q_s_cutAll2 D ks ad kk V L  (va_A (mw ad kk ks.1 V L) sz)) 0 0 (va_A (mw ad kk ks.1 V L) sz) := by
  refine g_met (q_s_cutAll2 D ks ad kk V L) (by decide) (Nat.le_of_ble_eq_true rfl) ?_
  intro p e s m below meth c A ls H locs hx hb hr hml hown hg hlocks hin hnw hgk hP hK hD hS hA hl
  have hown : s.vm.findClass RX12 = some m.cls := hown
  have hl : lv_has ls 7 [(0, .ref (ad 0))] := hl
  have hP : va_P D vwCl (mw ad kk ks.1 V L) H := hP
  have hD : va_D A (mw ad kk ks.1 V L) := hD
  have hK : va_K D vwCl (mty kk) s := hK
  have agV : agr [(0, 2), (0, 3), (0, 7), (0, 8)] [4, 5, 6] V V := agr.rf
  have alL : agL [4, 5, 6] L L := agL.rf
  refine lv_aload_n hx hb dX12_cutAll_0 rfl (lv_at hl 0 rfl) ?_
  refine lv_aload_n hx hb dX12_cutAll_1 rfl (lv_at hl 0 rfl) ?_
  refine va_get (D := D) (ci := 12) (v := .int (V 0 2)) (C := RX12) (T := TX12) (N := 100) hx hb hg inX12 hown hK hP 0 rfl rfl 2 (by decide) (hg _ w1708) (fun _ h9 => h9) rfl dX12_cutAll_2 ?_
  have r1 : 0 ≤ ((V 0 2)).toInt ∧ ((V 0 2)).toInt ≤ 4000 := hMV 0 2
  refine va_put (D := D) (ci := 12) (v := .int (V 0 2)) (ty := tyX12 3) (C := RX12) (T := TX12) (N := 100) hx hb hg inX12 tyX12 tyX12_ok nmX12 hown hK hP hD hS 0 rfl rfl 3 (by decide) (hg _ w1709) (fun _ h9 => h9) rfl (tyX12_ok 3 (by decide)) rfl rfl (Nat.le_of_ble_eq_true rfl) dX12_cutAll_5 (fun H locs hP hD hS => ?_)
  obtain ⟨V2, hV2⟩ : ∃ z, z = up2 V 0 3 (V 0 2) := ⟨_, rfl⟩
  have hP : va_P D vwCl (mw ad kk ks.1 V2 L) H := by rw [hV2]; exact hP
  have hD : va_D A (mw ad kk ks.1 V2 L) := by rw [hV2]; exact hD
  have hMV2 : rgd bM V2 := hMV.put hV2 (show 0 ≤ ((V 0 2)).toInt ∧ ((V 0 2)).toInt ≤ 4000 from by (first | exact om_1194ef72f15b r1.1 r1.2 | omega))
  have agV2 : agr [(0, 2), (0, 3), (0, 7), (0, 8)] [4, 5, 6] V V2 := agV.up hV2 rfl
  refine lv_aload_n hx hb dX12_cutAll_8 rfl (lv_at hl 0 rfl) ?_
  refine lv_iconst (v := 0) hx hb dX12_cutAll_9 (by decide) ?_
  refine va_put (D := D) (ci := 12) (v := .int 0) (ty := tyX12 2) (C := RX12) (T := TX12) (N := 100) hx hb hg inX12 tyX12 tyX12_ok nmX12 hown hK hP hD hS 0 rfl rfl 2 (by decide) (hg _ w1708) (fun _ h9 => h9) rfl (tyX12_ok 2 (by decide)) rfl rfl (Nat.le_of_ble_eq_true rfl) dX12_cutAll_10 (fun H locs hP hD hS => ?_)
  obtain ⟨V3, hV3⟩ : ∃ z, z = up2 V2 0 2 0 := ⟨_, rfl⟩
  have hP : va_P D vwCl (mw ad kk ks.1 V3 L) H := by rw [hV3]; exact hP
  have hD : va_D A (mw ad kk ks.1 V3 L) := by rw [hV3]; exact hD
  have hMV3 : rgd bM V3 := hMV2.put hV3 (by decide)
  have agV3 : agr [(0, 2), (0, 3), (0, 7), (0, 8)] [4, 5, 6] V V3 := agV2.up hV3 rfl
  refine lv_iconst (v := 0) hx hb dX12_cutAll_13 (by decide) ?_
  refine lv_istore_n (lv' := [(1, .int 0), (0, .ref (ad 0))]) hx hb dX12_cutAll_14 rfl hl (by decide) rfl (fun ls hl => ?_)
  refine lv_iconst (v := 0) hx hb dX12_cutAll_15 (by decide) ?_
  refine lv_istore_n (lv' := [(2, .int 0), (1, .int 0), (0, .ref (ad 0))]) hx hb dX12_cutAll_16 rfl hl (by decide) rfl (fun ls hl => ?_)
  have lp8 : ∀ (fulp8 : Nat) (y4 : Int32) (y5 : Int32) (V6 : Vf) (L7 : Lf) (H : Heap) (locs : List Loc) (ls : Array Slot), 0 ≤ y4.toInt ∧ y4.toInt ≤ 4000 → 0 ≤ y5.toInt ∧ y5.toInt ≤ 4000 → y5.toInt ≤ y4.toInt → y4.toInt ≤ (V6 0 3).toInt → (RTq V V6 L7 (y5.toInt).toNat (y4.toInt).toNat) → (V6 0 3).toInt - y4.toInt < (fulp8 : Int) → agL [4, 5, 6] L L7 → agr [] [4, 5, 6] V3 V6 → rgd bM V6 → va_P D vwCl (mw ad kk ks.1 V6 L7) H → va_D A (mw ad kk ks.1 V6 L7) → va_S A s.heap H locs → lv_has ls 7 [(2, .int y4), (1, .int y5), (0, .ref (ad 0))] → W p l e r_s_cutAll2 s m ([.ref (ad 0)] : List Value).toArray below meth c H locs 0 0 (MQ below (q_s_cutAll2 D ks ad kk V L  A) ([.ref (ad 0)] : List Value).toArray s 0 0 A) (F0 m 17 ls []) := by
    intro fulp8
    induction fulp8 with
    | zero =>
      intro y4 y5 V6 L7 H locs ls klp8_0 klp8_1 xlp8_0 xlp8_1 xlp8_2 hn alL7 ajV6 hMV6 hP hD hS hl
      exfalso; (first | exact om_4634b1278845 xlp8_1 hn | omega)
    | succ fulp8 ihlp8 =>
      intro y4 y5 V6 L7 H locs ls klp8_0 klp8_1 xlp8_0 xlp8_1 xlp8_2 hn alL7 ajV6 hMV6 hP hD hS hl
      have agV6 : agr [(0, 2), (0, 3), (0, 7), (0, 8)] [4, 5, 6] V V6 := agV3.tr ajV6 (by decide) (by decide)
      have pq9 : (V6 0 3).toInt = ((V 0 2)).toInt := congrArg Int32.toInt ((ajV6 0 3 rfl).trans ((up2_k hV3 (by decide)).trans (up2_s hV2)))
      refine lv_iload_n hx hb dX12_cutAll_17 rfl (lv_at hl 0 rfl) ?_
      refine lv_aload_n hx hb dX12_cutAll_18 rfl (lv_at hl 2 rfl) ?_
      refine va_get (D := D) (ci := 12) (v := .int (V6 0 3)) (C := RX12) (T := TX12) (N := 100) hx hb hg inX12 hown hK hP 0 rfl rfl 3 (by decide) (hg _ w1709) (fun _ h9 => h9) rfl dX12_cutAll_19 ?_
      refine g_top (v := (V 0 2)) ((ajV6 0 3 rfl).trans ((up2_k hV3 (by decide)).trans (up2_s hV2))) ?_
      refine lv_icmp_ge (tgt := 293) hx hb dX12_cutAll_22 (by decide) (fun c10 => ?_) (fun c10 => ?_)
      · skip
        have f11 : ((V 0 2)).toInt ≤ y4.toInt := b_le rfl rfl c10
        refine lv_aload_n hx hb dX12_cutAll_293 rfl (lv_at hl 2 rfl) ?_
        refine va_get (D := D) (ci := 12) (v := .ref (ad 4)) (C := RX12) (T := TX12) (N := 100) hx hb hg inX12 hown hK hP 0 rfl rfl 4 (by decide) (hg _ w1710) (fun _ h9 => h9) rfl dX12_cutAll_294 ?_
        refine lv_iload_n hx hb dX12_cutAll_297 rfl (lv_at hl 1 rfl) ?_
        refine lv_iconst (v := 0) hx hb dX12_cutAll_298 (by decide) ?_
        refine va_iast (D := D) (i := y5) (x := 0) hx hb hK hP hD hS 2 1 rfl rfl (i_in (a := y5.toInt) rfl (by (first | exact om_8f19bcb79b8b klp8_0.2 klp8_1.1 xlp8_0 | omega))) dX12_cutAll_299 (fun H locs hP hD hS => ?_)
        obtain ⟨V12, hV12⟩ : ∃ z, z = up2 V6 4 (Int32.toNatClampNeg y5) 0 := ⟨_, rfl⟩
        have hP : va_P D vwCl (mw ad kk ks.1 V12 L7) H := by rw [hV12]; exact hP
        have hD : va_D A (mw ad kk ks.1 V12 L7) := by rw [hV12]; exact hD
        have hMV12 : rgd bM V12 := hMV6.put hV12 (i_full _)
        have agV12 : agr [(0, 2), (0, 3), (0, 7), (0, 8)] [4, 5, 6] V V12 := agV6.up hV12 rfl
        refine lv_aload_n hx hb dX12_cutAll_300 rfl (lv_at hl 2 rfl) ?_
        refine va_get (D := D) (ci := 12) (v := .ref (ad 5)) (C := RX12) (T := TX12) (N := 100) hx hb hg inX12 hown hK hP 0 rfl rfl 5 (by decide) (hg _ w1711) (fun _ h9 => h9) rfl dX12_cutAll_301 ?_
        refine lv_iload_n hx hb dX12_cutAll_304 rfl (lv_at hl 1 rfl) ?_
        refine lv_aload_n hx hb dX12_cutAll_305 rfl (lv_at hl 2 rfl) ?_
        refine va_get (D := D) (ci := 12) (v := .int (V12 0 3)) (C := RX12) (T := TX12) (N := 100) hx hb hg inX12 hown hK hP 0 rfl rfl 3 (by decide) (hg _ w1709) (fun _ h9 => h9) rfl dX12_cutAll_306 ?_
        refine g_top (v := (V 0 2)) ((up2_o hV12 (by decide)).trans ((ajV6 0 3 rfl).trans ((up2_k hV3 (by decide)).trans (up2_s hV2)))) ?_
        refine va_iast (D := D) (i := y5) (x := (V 0 2)) hx hb hK hP hD hS 3 2 rfl rfl (i_in (a := y5.toInt) rfl (by (first | exact om_8f19bcb79b8b klp8_0.2 klp8_1.1 xlp8_0 | omega))) dX12_cutAll_309 (fun H locs hP hD hS => ?_)
        obtain ⟨V13, hV13⟩ : ∃ z, z = up2 V12 5 (Int32.toNatClampNeg y5) (V 0 2) := ⟨_, rfl⟩
        have hP : va_P D vwCl (mw ad kk ks.1 V13 L7) H := by rw [hV13]; exact hP
        have hD : va_D A (mw ad kk ks.1 V13 L7) := by rw [hV13]; exact hD
        have hMV13 : rgd bM V13 := hMV12.put hV13 (show 0 ≤ ((V 0 2)).toInt ∧ ((V 0 2)).toInt ≤ 4000 from by (first | exact om_6860296b5c30 klp8_0.1 klp8_0.2 xlp8_1 pq9 f11 | omega))
        have agV13 : agr [(0, 2), (0, 3), (0, 7), (0, 8)] [4, 5, 6] V V13 := agV12.up hV13 rfl
        refine lv_aload_n hx hb dX12_cutAll_310 rfl (lv_at hl 2 rfl) ?_
        refine lv_iconst (v := 0) hx hb dX12_cutAll_311 (by decide) ?_
        refine va_put (D := D) (ci := 12) (v := .int 0) (ty := tyX12 7) (C := RX12) (T := TX12) (N := 100) hx hb hg inX12 tyX12 tyX12_ok nmX12 hown hK hP hD hS 0 rfl rfl 7 (by decide) (hg _ w1713) (fun _ h9 => h9) rfl (tyX12_ok 7 (by decide)) rfl rfl (Nat.le_of_ble_eq_true rfl) dX12_cutAll_312 (fun H locs hP hD hS => ?_)
        obtain ⟨V14, hV14⟩ : ∃ z, z = up2 V13 0 7 0 := ⟨_, rfl⟩
        have hP : va_P D vwCl (mw ad kk ks.1 V14 L7) H := by rw [hV14]; exact hP
        have hD : va_D A (mw ad kk ks.1 V14 L7) := by rw [hV14]; exact hD
        have hMV14 : rgd bM V14 := hMV13.put hV14 (i_full _)
        have agV14 : agr [(0, 2), (0, 3), (0, 7), (0, 8)] [4, 5, 6] V V14 := agV13.up hV14 rfl
        refine lv_aload_n hx hb dX12_cutAll_315 rfl (lv_at hl 2 rfl) ?_
        refine lv_iconst (v := 0) hx hb dX12_cutAll_316 (by decide) ?_
        refine va_put (D := D) (ci := 12) (v := .int 0) (ty := tyX12 8) (C := RX12) (T := TX12) (N := 100) hx hb hg inX12 tyX12 tyX12_ok nmX12 hown hK hP hD hS 0 rfl rfl 8 (by decide) (hg _ w1714) (fun _ h9 => h9) rfl (tyX12_ok 8 (by decide)) rfl rfl (Nat.le_of_ble_eq_true rfl) dX12_cutAll_317 (fun H locs hP hD hS => ?_)
        obtain ⟨V15, hV15⟩ : ∃ z, z = up2 V14 0 8 0 := ⟨_, rfl⟩
        have hP : va_P D vwCl (mw ad kk ks.1 V15 L7) H := by rw [hV15]; exact hP
        have hD : va_D A (mw ad kk ks.1 V15 L7) := by rw [hV15]; exact hD
        have hMV15 : rgd bM V15 := hMV14.put hV15 (by decide)
        have agV15 : agr [(0, 2), (0, 3), (0, 7), (0, 8)] [4, 5, 6] V V15 := agV14.up hV15 rfl
        have pq16 : (V15 0 8).toInt = 0 := (congrArg Int32.toInt (up2_s hV15)).trans (by decide)
        have pq17 : (V15 0 7).toInt = 0 := (congrArg Int32.toInt ((up2_k hV15 (by decide)).trans (up2_s hV14))).trans (by decide)
        have pq18 : (V15 0 2).toInt = 0 := (congrArg Int32.toInt ((up2_k hV15 (by decide)).trans ((up2_k hV14 (by decide)).trans ((up2_o hV13 (by decide)).trans ((up2_o hV12 (by decide)).trans ((ajV6 0 2 rfl).trans (up2_s hV3))))))).trans (by decide)
        have kz19 := i_clamp (x := y5) rfl (by (first | exact om_eafa9039069c klp8_1.1 | omega))
        have rp20 : RTE V V15 L7 := RTE.mk xlp8_2 hV12 hV13 (by rw [(up2_fo hV15 (by decide) : V15 4 = V14 4), (up2_fo hV14 (by decide) : V14 4 = V13 4)] : V15 4 = V13 4) (by rw [(up2_fo hV15 (by decide) : V15 5 = V14 5), (up2_fo hV14 (by decide) : V14 5 = V13 5)] : V15 5 = V13 5) (by omega) (by omega) rfl (by omega)
        exact W.vret hx hb hr (fun t ht hW => ⟨⟨(V15, L7), rfl, ⟨hMV15, agV15, alL7, (show (V15 0 8).toInt = 0 from by (first | exact om_b66ba74381d5 pq16 | omega)), (show (V15 0 7).toInt = 0 from by (first | exact om_b66ba74381d5 pq17 | omega)), (show (V15 0 2).toInt = 0 from by (first | exact om_b66ba74381d5 pq18 | omega)), rp20⟩, by rw [ht]; exact hP, va_K.moved hW.alike hK, hD⟩, hS.F ht⟩) hS.2.2 dX12_cutAll_320
      · skip
        have f21 : y4.toInt < ((V 0 2)).toInt := b_nle rfl rfl c10
        refine lv_aload_n hx hb dX12_cutAll_25 rfl (lv_at hl 2 rfl) ?_
        refine va_get (D := D) (ci := 12) (v := .ref (ad 1)) (C := RX12) (T := TX12) (N := 100) hx hb hg inX12 hown hK hP 0 rfl rfl 1 (by decide) (hg _ w1707) (fun _ h9 => h9) rfl dX12_cutAll_26 ?_
        refine lv_iload_n hx hb dX12_cutAll_29 rfl (lv_at hl 0 rfl) ?_
        refine va_iald (D := D) (i := y4) hx hb hK hP 1 0 rfl rfl (i_in (a := y4.toInt) rfl (by (first | exact om_ae1ad81edeff r1.2 klp8_0.1 f21 | omega))) dX12_cutAll_30 ?_
        refine g_top (v := (V 1 (Int32.toNatClampNeg y4))) ((ajV6 1 (Int32.toNatClampNeg y4) rfl).trans ((up2_o hV3 (by decide)).trans (up2_o hV2 (by decide)))) ?_
        refine lv_istore_n (lv' := [(3, .int (V 1 (Int32.toNatClampNeg y4))), (2, .int y4), (1, .int y5), (0, .ref (ad 0))]) hx hb dX12_cutAll_31 rfl hl (by decide) rfl (fun ls hl => ?_)
        refine lv_iload_n hx hb dX12_cutAll_32 rfl (lv_at hl 0 rfl) ?_
        refine lv_bipush (v := 10) hx hb dX12_cutAll_33 (by decide) ?_
        refine lv_icmp_eq (tgt := 44) hx hb dX12_cutAll_35 (by decide) (fun c22 => ?_) (fun c22 => ?_)
        · skip
          have f23 : ((V 1 (Int32.toNatClampNeg y4))).toInt = 10 := b_eq rfl (by decide) c22
          obtain ⟨z24, ez24⟩ : ∃ y : Int32, y = y4 + 1 := ⟨_, rfl⟩
          have hz24 : z24.toInt = y4.toInt + 1 := i_add ez24 rfl (by decide) (by (first | exact om_60388b098aab r1.2 klp8_0.1 f21 | omega))
          refine lv_iinc (v := z24) (lv' := [(2, .int z24), (3, .int (V 1 (Int32.toNatClampNeg y4))), (1, .int y5), (0, .ref (ad 0))]) hx hb dX12_cutAll_44 hl (k := 1) rfl (by rw [ez24]; rfl) (by decide) rfl (fun ls hl => ?_)
          refine lv_goto (tgt := 17) hx hb dX12_cutAll_47 (by decide) ?_
          have kz25 := i_clamp (x := y4) rfl (by (first | exact om_eafa9039069c klp8_0.1 | omega))
          have ez : y4.toInt.toNat = Int32.toNatClampNeg y4 := by (first | exact om_14d446f7993c klp8_0.1 kz25 | omega)
          exact ihlp8 z24 y5 V6 L7 H locs ls (by (first | exact om_e23ddeb43246 r1.2 klp8_0.1 f21 hz24 | omega)) (by (first | exact om_c1fa050e69fd r1.2 klp8_1.1 xlp8_0 f21 | omega)) (show y5.toInt ≤ z24.toInt from by (first | exact om_f75a30b4c815 xlp8_0 hz24 | omega)) (show z24.toInt ≤ (V6 0 3).toInt from by (first | exact om_79347f38c257 pq9 f21 hz24 | omega)) (RTq.bl xlp8_2 (by omega) (by omega) (by rw [ez]; unfold isBl; omega)) (by (first | exact om_9e7d2b874257 hn hz24 | omega)) alL7 (agr.tr agr.rf ajV6 (by decide) (by decide)) hMV6 hP hD hS (lv_sub hl [0, 2, 3] rfl)
        · skip
          have f26 : ((V 1 (Int32.toNatClampNeg y4))).toInt ≠ 10 := b_neq rfl (by decide) c22
          refine lv_iload_n hx hb dX12_cutAll_38 rfl (lv_at hl 0 rfl) ?_
          refine lv_bipush (v := 32) hx hb dX12_cutAll_39 (by decide) ?_
          refine lv_icmp_ne (tgt := 50) hx hb dX12_cutAll_41 (by decide) (fun c27 => ?_) (fun c27 => ?_)
          · skip
            have f28 : ((V 1 (Int32.toNatClampNeg y4))).toInt ≠ 32 := b_neq rfl (by decide) c27
            refine lv_iload_n hx hb dX12_cutAll_50 rfl (lv_at hl 1 rfl) ?_
            refine lv_istore (lv' := [(4, .int y4), (3, .int (V 1 (Int32.toNatClampNeg y4))), (2, .int y4), (1, .int y5), (0, .ref (ad 0))]) hx hb dX12_cutAll_51 hl (by decide) rfl (fun ls hl => ?_)
            refine lv_lconst (v := 0) hx hb dX12_cutAll_53 (by decide) ?_
            refine lv_lstore (lv' := [(5, .long 0), (4, .int y4), (3, .int (V 1 (Int32.toNatClampNeg y4))), (2, .int y4), (1, .int y5), (0, .ref (ad 0))]) hx hb dX12_cutAll_54 hl (by decide) rfl (fun ls hl => ?_)
            refine lv_aload_n hx hb dX12_cutAll_56 rfl (lv_at hl 5 rfl) ?_
            refine va_get (D := D) (ci := 12) (v := .ref (ad 5)) (C := RX12) (T := TX12) (N := 100) hx hb hg inX12 hown hK hP 0 rfl rfl 5 (by decide) (hg _ w1711) (fun _ h9 => h9) rfl dX12_cutAll_57 ?_
            refine lv_iload_n hx hb dX12_cutAll_60 rfl (lv_at hl 4 rfl) ?_
            refine lv_iload_n hx hb dX12_cutAll_61 rfl (lv_at hl 3 rfl) ?_
            refine va_iast (D := D) (i := y5) (x := y4) hx hb hK hP hD hS 3 2 rfl rfl (i_in (a := y5.toInt) rfl (by (first | exact om_0b7a149ae3dd r1.2 klp8_1.1 xlp8_0 f21 | omega))) dX12_cutAll_62 (fun H locs hP hD hS => ?_)
            obtain ⟨V29, hV29⟩ : ∃ z, z = up2 V6 5 (Int32.toNatClampNeg y5) y4 := ⟨_, rfl⟩
            have hP : va_P D vwCl (mw ad kk ks.1 V29 L7) H := by rw [hV29]; exact hP
            have hD : va_D A (mw ad kk ks.1 V29 L7) := by rw [hV29]; exact hD
            have hMV29 : rgd bM V29 := hMV6.put hV29 (show 0 ≤ y4.toInt ∧ y4.toInt ≤ 4000 from by (first | exact om_fb8e2a868ece r1.2 klp8_0.1 f21 | omega))
            have agV29 : agr [(0, 2), (0, 3), (0, 7), (0, 8)] [4, 5, 6] V V29 := agV6.up hV29 rfl
            refine lv_iload_n hx hb dX12_cutAll_63 rfl (lv_at hl 2 rfl) ?_
            refine gE_int (g_runS (As := [.int (V 1 (Int32.toNatClampNeg y4))]) (rest := []) (wc := []) (tc := []) hx hb hml hown hg gw_self hP hD hK hS hA hnw hgk [] [] (by decide) rfl rfl (s_isLetter l D ks H.size (V 1 (Int32.toNatClampNeg y4)) ) w1703 w1704 w172 w1705 hdS_yX12_isLetter ⟨Nat.le_of_ble_eq_true rfl, Nat.le_of_ble_eq_true rfl⟩ rfl hl.1 rfl (Nat.le_of_ble_eq_true rfl) dX12_cutAll_64 ⟨Nat.le_of_ble_eq_true rfl, Nat.le_of_ble_eq_true rfl⟩) hP hD hK hS hA (fun z30 u31 H locs w32 hP hD hK hS => ?_)
            obtain ⟨rgz30, t33, t34⟩ := w32
            have rgz30 : 0 ≤ z30.toInt ∧ z30.toInt ≤ 1 := rgz30
            have t33 : Imp (z30.toInt = 1) (97 ≤ ((V 1 (Int32.toNatClampNeg y4))).toInt ∧ ((V 1 (Int32.toNatClampNeg y4))).toInt ≤ 122) := t33
            have t34 : Imp (z30.toInt = 0) (((V 1 (Int32.toNatClampNeg y4))).toInt < 97 ∨ 122 < ((V 1 (Int32.toNatClampNeg y4))).toInt) := t34
            refine lv_if_eq (tgt := 164) hx hb dX12_cutAll_67 (by decide) (fun c35 => ?_) (fun c35 => ?_)
            · skip
              have f36 : z30.toInt = 0 := b_eq rfl (by decide) c35
              refine lv_iload_n hx hb dX12_cutAll_164 rfl (lv_at hl 2 rfl) ?_
              refine gE_int (g_runS (As := [.int (V 1 (Int32.toNatClampNeg y4))]) (rest := []) (wc := []) (tc := []) hx hb hml hown hg gw_self hP hD hK hS hA hnw hgk [] [] (by decide) rfl rfl (s_isDigit l D ks H.size (V 1 (Int32.toNatClampNeg y4)) ) w2015 w2016 w172 w2017 hdS_yX12_isDigit ⟨Nat.le_of_ble_eq_true rfl, Nat.le_of_ble_eq_true rfl⟩ rfl hl.1 rfl (Nat.le_of_ble_eq_true rfl) dX12_cutAll_165 ⟨Nat.le_of_ble_eq_true rfl, Nat.le_of_ble_eq_true rfl⟩) hP hD hK hS hA (fun z37 u38 H locs w39 hP hD hK hS => ?_)
              obtain ⟨rgz37, t40, t41⟩ := w39
              have rgz37 : 0 ≤ z37.toInt ∧ z37.toInt ≤ 1 := rgz37
              have t40 : Imp (z37.toInt = 1) (48 ≤ ((V 1 (Int32.toNatClampNeg y4))).toInt ∧ ((V 1 (Int32.toNatClampNeg y4))).toInt ≤ 57) := t40
              have t41 : Imp (z37.toInt = 0) (((V 1 (Int32.toNatClampNeg y4))).toInt < 48 ∨ 57 < ((V 1 (Int32.toNatClampNeg y4))).toInt) := t41
              refine lv_if_eq (tgt := 254) hx hb dX12_cutAll_168 (by decide) (fun c42 => ?_) (fun c42 => ?_)
              · skip
                have f43 : z37.toInt = 0 := b_eq rfl (by decide) c42
                refine lv_iload_n hx hb dX12_cutAll_254 rfl (lv_at hl 2 rfl) ?_
                refine lv_i2l hx hb dX12_cutAll_255 rfl ?_
                refine lv_topl (fun w44 ew44 => ?_)
                refine lv_lstore (lv' := [(5, .long w44), (4, .int y4), (3, .int (V 1 (Int32.toNatClampNeg y4))), (2, .int y4), (1, .int y5), (0, .ref (ad 0))]) hx hb dX12_cutAll_256 hl (by decide) rfl (fun ls hl => ?_)
                refine lv_aload_n hx hb dX12_cutAll_258 rfl (lv_at hl 5 rfl) ?_
                refine va_get (D := D) (ci := 12) (v := .ref (ad 4)) (C := RX12) (T := TX12) (N := 100) hx hb hg inX12 hown hK hP 0 rfl rfl 4 (by decide) (hg _ w1710) (fun _ h9 => h9) rfl dX12_cutAll_259 ?_
                refine lv_iload_n hx hb dX12_cutAll_262 rfl (lv_at hl 4 rfl) ?_
                refine lv_iload_n hx hb dX12_cutAll_263 rfl (lv_at hl 2 rfl) ?_
                refine gE_int (g_runS (As := [.int (V 1 (Int32.toNatClampNeg y4))]) (rest := [.int y5, .ref (ad 4)]) (wc := []) (tc := []) hx hb hml hown hg gw_self hP hD hK hS hA hnw hgk [] [] (by decide) rfl rfl (s_isSignOf2 l D ks H.size (V 1 (Int32.toNatClampNeg y4)) ) w2020 w2021 w172 w2022 hdS_yX12_isSignOf ⟨Nat.le_of_ble_eq_true rfl, Nat.le_of_ble_eq_true rfl⟩ rfl hl.1 rfl (Nat.le_of_ble_eq_true rfl) dX12_cutAll_264 ⟨Nat.le_of_ble_eq_true rfl, Nat.le_of_ble_eq_true rfl⟩) hP hD hK hS hA (fun z45 u46 H locs w47 hP hD hK hS => ?_)
                obtain ⟨rgz45, t48⟩ := w47
                have rgz45 : 0 ≤ z45.toInt ∧ z45.toInt ≤ 1 := rgz45
                have t48 : (z45.toInt = 1 ∧ isSg (V 1 (Int32.toNatClampNeg y4))) ∨ (z45.toInt = 0 ∧ ¬ isSg (V 1 (Int32.toNatClampNeg y4))) := t48
                refine lv_if_eq (tgt := 274) hx hb dX12_cutAll_267 (by decide) (fun c49 => ?_) (fun c49 => ?_)
                · skip
                  have f50 : z45.toInt = 0 := b_eq rfl (by decide) c49
                  refine lv_iconst (v := 4) hx hb dX12_cutAll_274 (by decide) ?_
                  refine va_iast (D := D) (i := y5) (x := 4) hx hb hK hP hD hS 2 1 rfl rfl (i_in (a := y5.toInt) rfl (by first | exact om_0b7a149ae3dd r1.2 klp8_1.1 xlp8_0 f21 | first | omega | ((try (have i_t41 := Imp.go t41 (f43))); (try (have i_t34 := Imp.go t34 (f36))); omega) | ((try (have i_t41 := Imp.go t41 (by omega))); (try (have i_t40 := Imp.go t40 (by omega))); (try (have i_t34 := Imp.go t34 (by omega))); (try (have i_t33 := Imp.go t33 (by omega))); first | omega | ((try (have i_t33 := Imp.go t33 (by omega))); (try (have i_t34 := Imp.go t34 (by omega))); (try (have i_t40 := Imp.go t40 (by omega))); (try (have i_t41 := Imp.go t41 (by omega))); omega)))) dX12_cutAll_275 (fun H locs hP hD hS => ?_)
                  obtain ⟨V51, hV51⟩ : ∃ z, z = up2 V29 4 (Int32.toNatClampNeg y5) 4 := ⟨_, rfl⟩
                  have hP : va_P D vwCl (mw ad kk ks.1 V51 L7) H := by rw [hV51]; exact hP
                  have hD : va_D A (mw ad kk ks.1 V51 L7) := by rw [hV51]; exact hD
                  have hMV51 : rgd bM V51 := hMV29.put hV51 (i_full _)
                  have agV51 : agr [(0, 2), (0, 3), (0, 7), (0, 8)] [4, 5, 6] V V51 := agV29.up hV51 rfl
                  obtain ⟨z52, ez52⟩ : ∃ y : Int32, y = y4 + 1 := ⟨_, rfl⟩
                  have hz52 : z52.toInt = y4.toInt + 1 := i_add ez52 rfl (by decide) (by (first | exact om_60388b098aab r1.2 klp8_0.1 f21 | omega))
                  refine lv_iinc (v := z52) (lv' := [(2, .int z52), (5, .long w44), (4, .int y4), (3, .int (V 1 (Int32.toNatClampNeg y4))), (1, .int y5), (0, .ref (ad 0))]) hx hb dX12_cutAll_276 hl (k := 3) rfl (by rw [ez52]; rfl) (by decide) rfl (fun ls hl => ?_)
                  refine lv_aload_n hx hb dX12_cutAll_279 rfl (lv_at hl 5 rfl) ?_
                  refine va_get (D := D) (ci := 12) (v := .ref (ad 6)) (C := RX12) (T := TX12) (N := 100) hx hb hg inX12 hown hK hP 0 rfl rfl 6 (by decide) (hg _ w1712) (fun _ h9 => h9) rfl dX12_cutAll_280 ?_
                  refine lv_iload_n hx hb dX12_cutAll_283 rfl (lv_at hl 4 rfl) ?_
                  refine lv_lload hx hb dX12_cutAll_284 (lv_at hl 1 rfl) ?_
                  refine va_last (D := D) (i := y5) (x := w44) hx hb hK hP hD hS 4 3 rfl rfl (i_in (a := y5.toInt) rfl (by first | exact om_0b7a149ae3dd r1.2 klp8_1.1 xlp8_0 f21 | first | omega | ((try (have i_t41 := Imp.go t41 (f43))); (try (have i_t34 := Imp.go t34 (f36))); omega) | ((try (have i_t41 := Imp.go t41 (by omega))); (try (have i_t40 := Imp.go t40 (by omega))); (try (have i_t34 := Imp.go t34 (by omega))); (try (have i_t33 := Imp.go t33 (by omega))); first | omega | ((try (have i_t33 := Imp.go t33 (by omega))); (try (have i_t34 := Imp.go t34 (by omega))); (try (have i_t40 := Imp.go t40 (by omega))); (try (have i_t41 := Imp.go t41 (by omega))); omega)))) dX12_cutAll_286 (fun H locs hP hD hS => ?_)
                  obtain ⟨L53, hL53⟩ : ∃ z, z = upL L7 6 (Int32.toNatClampNeg y5) w44 := ⟨_, rfl⟩
                  have hP : va_P D vwCl (mw ad kk ks.1 V51 L53) H := by rw [hL53]; exact hP
                  have hD : va_D A (mw ad kk ks.1 V51 L53) := by rw [hL53]; exact hD
                  have alL53 : agL [4, 5, 6] L L53 := agL.up alL7 hL53 rfl
                  obtain ⟨z54, ez54⟩ : ∃ y : Int32, y = y5 + 1 := ⟨_, rfl⟩
                  have hz54 : z54.toInt = y5.toInt + 1 := i_add ez54 rfl (by decide) (by (first | exact om_2a57709bda2c r1.2 klp8_1.1 xlp8_0 f21 | omega))
                  refine lv_iinc (v := z54) (lv' := [(1, .int z54), (2, .int z52), (5, .long w44), (4, .int y4), (3, .int (V 1 (Int32.toNatClampNeg y4))), (0, .ref (ad 0))]) hx hb dX12_cutAll_287 hl (k := 4) rfl (by rw [ez54]; rfl) (by decide) rfl (fun ls hl => ?_)
                  refine lv_goto (tgt := 17) hx hb dX12_cutAll_290 (by decide) ?_
                  have pq55 : (V51 0 3).toInt = ((V 0 2)).toInt := congrArg Int32.toInt ((up2_o hV51 (by decide)).trans ((up2_o hV29 (by decide)).trans ((ajV6 0 3 rfl).trans ((up2_k hV3 (by decide)).trans (up2_s hV2)))))
                  have kz56 := i_clamp (x := y4) rfl (by (first | exact om_eafa9039069c klp8_0.1 | omega))
                  have ez : y4.toInt.toNat = Int32.toNatClampNeg y4 := by (first | exact om_14d446f7993c klp8_0.1 kz56 | omega)
                  have kz57 := i_clamp (x := y5) rfl (by (first | exact om_eafa9039069c klp8_1.1 | omega))
                  have n1 : ¬ isDg (V 1 y4.toInt.toNat) := by rw [ez]; exact fun z => by have y := Imp.go t41 (by (first | exact om_b1799fcf2d63 rgz37.1 f43 | omega)); have z1 := z.1; have z2 := z.2; omega
                  have n2 : ¬ isLt (V 1 y4.toInt.toNat) := by rw [ez]; exact fun z => by have y := Imp.go t34 (by (first | exact om_b1799fcf2d63 rgz30.1 f36 | omega)); have z1 := z.1; have z2 := z.2; omega
                  exact ihlp8 z52 z54 V51 L53 H locs ls (by first | exact om_e23ddeb43246 r1.2 klp8_0.1 f21 hz52 | first | omega | ((try (have i_t41 := Imp.go t41 (f43))); (try (have i_t34 := Imp.go t34 (f36))); omega) | ((try (have i_t41 := Imp.go t41 (by omega))); (try (have i_t40 := Imp.go t40 (by omega))); (try (have i_t34 := Imp.go t34 (by omega))); (try (have i_t33 := Imp.go t33 (by omega))); first | omega | ((try (have i_t33 := Imp.go t33 (by omega))); (try (have i_t34 := Imp.go t34 (by omega))); (try (have i_t40 := Imp.go t40 (by omega))); (try (have i_t41 := Imp.go t41 (by omega))); omega))) (by first | exact om_4a99a0b23375 r1.2 klp8_1.1 xlp8_0 f21 hz54 | first | omega | ((try (have i_t41 := Imp.go t41 (f43))); (try (have i_t34 := Imp.go t34 (f36))); omega) | ((try (have i_t41 := Imp.go t41 (by omega))); (try (have i_t40 := Imp.go t40 (by omega))); (try (have i_t34 := Imp.go t34 (by omega))); (try (have i_t33 := Imp.go t33 (by omega))); first | omega | ((try (have i_t33 := Imp.go t33 (by omega))); (try (have i_t34 := Imp.go t34 (by omega))); (try (have i_t40 := Imp.go t40 (by omega))); (try (have i_t41 := Imp.go t41 (by omega))); omega))) (show z54.toInt ≤ z52.toInt from by first | exact om_814c82eb030f xlp8_0 hz52 hz54 | first | omega | ((try (have i_t41 := Imp.go t41 (f43))); (try (have i_t34 := Imp.go t34 (f36))); omega) | ((try (have i_t41 := Imp.go t41 (by omega))); (try (have i_t40 := Imp.go t40 (by omega))); (try (have i_t34 := Imp.go t34 (by omega))); (try (have i_t33 := Imp.go t33 (by omega))); first | omega | ((try (have i_t33 := Imp.go t33 (by omega))); (try (have i_t34 := Imp.go t34 (by omega))); (try (have i_t40 := Imp.go t40 (by omega))); (try (have i_t41 := Imp.go t41 (by omega))); omega))) (show z52.toInt ≤ (V51 0 3).toInt from by first | exact om_f971e48495aa f21 hz52 pq55 | first | omega | ((try (have i_t41 := Imp.go t41 (f43))); (try (have i_t34 := Imp.go t34 (f36))); omega) | ((try (have i_t41 := Imp.go t41 (by omega))); (try (have i_t40 := Imp.go t40 (by omega))); (try (have i_t34 := Imp.go t34 (by omega))); (try (have i_t33 := Imp.go t33 (by omega))); first | omega | ((try (have i_t33 := Imp.go t33 (by omega))); (try (have i_t34 := Imp.go t34 (by omega))); (try (have i_t40 := Imp.go t40 (by omega))); (try (have i_t41 := Imp.go t41 (by omega))); omega))) (RTq.tk (t := y5.toInt.toNat) (p := y4.toInt.toNat) (e := z52.toInt.toNat) xlp8_2 hV29 hV51 hL53 (by omega) (by first | omega | ((try (have i_t41 := Imp.go t41 (f43))); (try (have i_t34 := Imp.go t34 (f36))); omega) | ((try (have i_t41 := Imp.go t41 (by omega))); (try (have i_t40 := Imp.go t40 (by omega))); (try (have i_t34 := Imp.go t34 (by omega))); (try (have i_t33 := Imp.go t33 (by omega))); first | omega | ((try (have i_t33 := Imp.go t33 (by omega))); (try (have i_t34 := Imp.go t34 (by omega))); (try (have i_t40 := Imp.go t40 (by omega))); (try (have i_t41 := Imp.go t41 (by omega))); omega))) rfl (by omega) (by rw [ez]; unfold isBl; omega) (Or.inr (Or.inr ⟨n1, n2, by first | omega | ((try (have i_t41 := Imp.go t41 (f43))); (try (have i_t34 := Imp.go t34 (f36))); omega) | ((try (have i_t41 := Imp.go t41 (by omega))); (try (have i_t40 := Imp.go t40 (by omega))); (try (have i_t34 := Imp.go t34 (by omega))); (try (have i_t33 := Imp.go t33 (by omega))); first | omega | ((try (have i_t33 := Imp.go t33 (by omega))); (try (have i_t34 := Imp.go t34 (by omega))); (try (have i_t40 := Imp.go t40 (by omega))); (try (have i_t41 := Imp.go t41 (by omega))); omega)), by first | omega | ((try (have i_t41 := Imp.go t41 (f43))); (try (have i_t34 := Imp.go t34 (f36))); omega) | ((try (have i_t41 := Imp.go t41 (by omega))); (try (have i_t40 := Imp.go t40 (by omega))); (try (have i_t34 := Imp.go t34 (by omega))); (try (have i_t33 := Imp.go t33 (by omega))); first | omega | ((try (have i_t33 := Imp.go t33 (by omega))); (try (have i_t34 := Imp.go t34 (by omega))); (try (have i_t40 := Imp.go t40 (by omega))); (try (have i_t41 := Imp.go t41 (by omega))); omega))⟩)) ⟨fun q => absurd q n1, fun q => absurd q n2, fun _ _ => ⟨t48.elim (fun q => absurd q.1 (by omega)) (fun q => Or.inr ⟨by rw [ez]; exact q.2, by decide⟩), by rw [ez]; exact ew44⟩⟩) (by first | exact om_5806eb61fe36 hn pq9 hz52 pq55 | first | omega | ((try (have i_t41 := Imp.go t41 (f43))); (try (have i_t34 := Imp.go t34 (f36))); omega) | ((try (have i_t41 := Imp.go t41 (by omega))); (try (have i_t40 := Imp.go t40 (by omega))); (try (have i_t34 := Imp.go t34 (by omega))); (try (have i_t33 := Imp.go t33 (by omega))); first | omega | ((try (have i_t33 := Imp.go t33 (by omega))); (try (have i_t34 := Imp.go t34 (by omega))); (try (have i_t40 := Imp.go t40 (by omega))); (try (have i_t41 := Imp.go t41 (by omega))); omega))) alL53 (agr.up (agr.up (agr.tr agr.rf ajV6 (by decide) (by decide)) hV29 rfl) hV51 rfl) hMV51 hP hD hS (lv_sub hl [1, 0, 5] rfl)
                · skip
                  have f58 : z45.toInt ≠ 0 := b_neq rfl (by decide) c49
                  refine lv_iconst (v := 3) hx hb dX12_cutAll_270 (by decide) ?_
                  refine lv_goto (tgt := 275) hx hb dX12_cutAll_271 (by decide) ?_
                  refine va_iast (D := D) (i := y5) (x := 3) hx hb hK hP hD hS 2 1 rfl rfl (i_in (a := y5.toInt) rfl (by first | exact om_0b7a149ae3dd r1.2 klp8_1.1 xlp8_0 f21 | first | omega | ((try (have i_t41 := Imp.go t41 (f43))); (try (have i_t34 := Imp.go t34 (f36))); omega) | ((try (have i_t41 := Imp.go t41 (by omega))); (try (have i_t40 := Imp.go t40 (by omega))); (try (have i_t34 := Imp.go t34 (by omega))); (try (have i_t33 := Imp.go t33 (by omega))); first | omega | ((try (have i_t33 := Imp.go t33 (by omega))); (try (have i_t34 := Imp.go t34 (by omega))); (try (have i_t40 := Imp.go t40 (by omega))); (try (have i_t41 := Imp.go t41 (by omega))); omega)))) dX12_cutAll_275 (fun H locs hP hD hS => ?_)
                  obtain ⟨V59, hV59⟩ : ∃ z, z = up2 V29 4 (Int32.toNatClampNeg y5) 3 := ⟨_, rfl⟩
                  have hP : va_P D vwCl (mw ad kk ks.1 V59 L7) H := by rw [hV59]; exact hP
                  have hD : va_D A (mw ad kk ks.1 V59 L7) := by rw [hV59]; exact hD
                  have hMV59 : rgd bM V59 := hMV29.put hV59 (i_full _)
                  have agV59 : agr [(0, 2), (0, 3), (0, 7), (0, 8)] [4, 5, 6] V V59 := agV29.up hV59 rfl
                  obtain ⟨z60, ez60⟩ : ∃ y : Int32, y = y4 + 1 := ⟨_, rfl⟩
                  have hz60 : z60.toInt = y4.toInt + 1 := i_add ez60 rfl (by decide) (by (first | exact om_60388b098aab r1.2 klp8_0.1 f21 | omega))
                  refine lv_iinc (v := z60) (lv' := [(2, .int z60), (5, .long w44), (4, .int y4), (3, .int (V 1 (Int32.toNatClampNeg y4))), (1, .int y5), (0, .ref (ad 0))]) hx hb dX12_cutAll_276 hl (k := 3) rfl (by rw [ez60]; rfl) (by decide) rfl (fun ls hl => ?_)
                  refine lv_aload_n hx hb dX12_cutAll_279 rfl (lv_at hl 5 rfl) ?_
                  refine va_get (D := D) (ci := 12) (v := .ref (ad 6)) (C := RX12) (T := TX12) (N := 100) hx hb hg inX12 hown hK hP 0 rfl rfl 6 (by decide) (hg _ w1712) (fun _ h9 => h9) rfl dX12_cutAll_280 ?_
                  refine lv_iload_n hx hb dX12_cutAll_283 rfl (lv_at hl 4 rfl) ?_
                  refine lv_lload hx hb dX12_cutAll_284 (lv_at hl 1 rfl) ?_
                  refine va_last (D := D) (i := y5) (x := w44) hx hb hK hP hD hS 4 3 rfl rfl (i_in (a := y5.toInt) rfl (by first | exact om_0b7a149ae3dd r1.2 klp8_1.1 xlp8_0 f21 | first | omega | ((try (have i_t41 := Imp.go t41 (f43))); (try (have i_t34 := Imp.go t34 (f36))); omega) | ((try (have i_t41 := Imp.go t41 (by omega))); (try (have i_t40 := Imp.go t40 (by omega))); (try (have i_t34 := Imp.go t34 (by omega))); (try (have i_t33 := Imp.go t33 (by omega))); first | omega | ((try (have i_t33 := Imp.go t33 (by omega))); (try (have i_t34 := Imp.go t34 (by omega))); (try (have i_t40 := Imp.go t40 (by omega))); (try (have i_t41 := Imp.go t41 (by omega))); omega)))) dX12_cutAll_286 (fun H locs hP hD hS => ?_)
                  obtain ⟨L61, hL61⟩ : ∃ z, z = upL L7 6 (Int32.toNatClampNeg y5) w44 := ⟨_, rfl⟩
                  have hP : va_P D vwCl (mw ad kk ks.1 V59 L61) H := by rw [hL61]; exact hP
                  have hD : va_D A (mw ad kk ks.1 V59 L61) := by rw [hL61]; exact hD
                  have alL61 : agL [4, 5, 6] L L61 := agL.up alL7 hL61 rfl
                  obtain ⟨z62, ez62⟩ : ∃ y : Int32, y = y5 + 1 := ⟨_, rfl⟩
                  have hz62 : z62.toInt = y5.toInt + 1 := i_add ez62 rfl (by decide) (by (first | exact om_2a57709bda2c r1.2 klp8_1.1 xlp8_0 f21 | omega))
                  refine lv_iinc (v := z62) (lv' := [(1, .int z62), (2, .int z60), (5, .long w44), (4, .int y4), (3, .int (V 1 (Int32.toNatClampNeg y4))), (0, .ref (ad 0))]) hx hb dX12_cutAll_287 hl (k := 4) rfl (by rw [ez62]; rfl) (by decide) rfl (fun ls hl => ?_)
                  refine lv_goto (tgt := 17) hx hb dX12_cutAll_290 (by decide) ?_
                  have pq63 : (V59 0 3).toInt = ((V 0 2)).toInt := congrArg Int32.toInt ((up2_o hV59 (by decide)).trans ((up2_o hV29 (by decide)).trans ((ajV6 0 3 rfl).trans ((up2_k hV3 (by decide)).trans (up2_s hV2)))))
                  have kz64 := i_clamp (x := y4) rfl (by (first | exact om_eafa9039069c klp8_0.1 | omega))
                  have ez : y4.toInt.toNat = Int32.toNatClampNeg y4 := by (first | exact om_14d446f7993c klp8_0.1 kz64 | omega)
                  have kz65 := i_clamp (x := y5) rfl (by (first | exact om_eafa9039069c klp8_1.1 | omega))
                  have n1 : ¬ isDg (V 1 y4.toInt.toNat) := by rw [ez]; exact fun z => by have y := Imp.go t41 (by (first | exact om_b1799fcf2d63 rgz37.1 f43 | omega)); have z1 := z.1; have z2 := z.2; omega
                  have n2 : ¬ isLt (V 1 y4.toInt.toNat) := by rw [ez]; exact fun z => by have y := Imp.go t34 (by (first | exact om_b1799fcf2d63 rgz30.1 f36 | omega)); have z1 := z.1; have z2 := z.2; omega
                  exact ihlp8 z60 z62 V59 L61 H locs ls (by first | exact om_e23ddeb43246 r1.2 klp8_0.1 f21 hz60 | first | omega | ((try (have i_t41 := Imp.go t41 (f43))); (try (have i_t34 := Imp.go t34 (f36))); omega) | ((try (have i_t41 := Imp.go t41 (by omega))); (try (have i_t40 := Imp.go t40 (by omega))); (try (have i_t34 := Imp.go t34 (by omega))); (try (have i_t33 := Imp.go t33 (by omega))); first | omega | ((try (have i_t33 := Imp.go t33 (by omega))); (try (have i_t34 := Imp.go t34 (by omega))); (try (have i_t40 := Imp.go t40 (by omega))); (try (have i_t41 := Imp.go t41 (by omega))); omega))) (by first | exact om_4a99a0b23375 r1.2 klp8_1.1 xlp8_0 f21 hz62 | first | omega | ((try (have i_t41 := Imp.go t41 (f43))); (try (have i_t34 := Imp.go t34 (f36))); omega) | ((try (have i_t41 := Imp.go t41 (by omega))); (try (have i_t40 := Imp.go t40 (by omega))); (try (have i_t34 := Imp.go t34 (by omega))); (try (have i_t33 := Imp.go t33 (by omega))); first | omega | ((try (have i_t33 := Imp.go t33 (by omega))); (try (have i_t34 := Imp.go t34 (by omega))); (try (have i_t40 := Imp.go t40 (by omega))); (try (have i_t41 := Imp.go t41 (by omega))); omega))) (show z62.toInt ≤ z60.toInt from by first | exact om_814c82eb030f xlp8_0 hz60 hz62 | first | omega | ((try (have i_t41 := Imp.go t41 (f43))); (try (have i_t34 := Imp.go t34 (f36))); omega) | ((try (have i_t41 := Imp.go t41 (by omega))); (try (have i_t40 := Imp.go t40 (by omega))); (try (have i_t34 := Imp.go t34 (by omega))); (try (have i_t33 := Imp.go t33 (by omega))); first | omega | ((try (have i_t33 := Imp.go t33 (by omega))); (try (have i_t34 := Imp.go t34 (by omega))); (try (have i_t40 := Imp.go t40 (by omega))); (try (have i_t41 := Imp.go t41 (by omega))); omega))) (show z60.toInt ≤ (V59 0 3).toInt from by first | exact om_f971e48495aa f21 hz60 pq63 | first | omega | ((try (have i_t41 := Imp.go t41 (f43))); (try (have i_t34 := Imp.go t34 (f36))); omega) | ((try (have i_t41 := Imp.go t41 (by omega))); (try (have i_t40 := Imp.go t40 (by omega))); (try (have i_t34 := Imp.go t34 (by omega))); (try (have i_t33 := Imp.go t33 (by omega))); first | omega | ((try (have i_t33 := Imp.go t33 (by omega))); (try (have i_t34 := Imp.go t34 (by omega))); (try (have i_t40 := Imp.go t40 (by omega))); (try (have i_t41 := Imp.go t41 (by omega))); omega))) (RTq.tk (t := y5.toInt.toNat) (p := y4.toInt.toNat) (e := z60.toInt.toNat) xlp8_2 hV29 hV59 hL61 (by omega) (by first | omega | ((try (have i_t41 := Imp.go t41 (f43))); (try (have i_t34 := Imp.go t34 (f36))); omega) | ((try (have i_t41 := Imp.go t41 (by omega))); (try (have i_t40 := Imp.go t40 (by omega))); (try (have i_t34 := Imp.go t34 (by omega))); (try (have i_t33 := Imp.go t33 (by omega))); first | omega | ((try (have i_t33 := Imp.go t33 (by omega))); (try (have i_t34 := Imp.go t34 (by omega))); (try (have i_t40 := Imp.go t40 (by omega))); (try (have i_t41 := Imp.go t41 (by omega))); omega))) rfl (by omega) (by rw [ez]; unfold isBl; omega) (Or.inr (Or.inr ⟨n1, n2, by first | omega | ((try (have i_t41 := Imp.go t41 (f43))); (try (have i_t34 := Imp.go t34 (f36))); omega) | ((try (have i_t41 := Imp.go t41 (by omega))); (try (have i_t40 := Imp.go t40 (by omega))); (try (have i_t34 := Imp.go t34 (by omega))); (try (have i_t33 := Imp.go t33 (by omega))); first | omega | ((try (have i_t33 := Imp.go t33 (by omega))); (try (have i_t34 := Imp.go t34 (by omega))); (try (have i_t40 := Imp.go t40 (by omega))); (try (have i_t41 := Imp.go t41 (by omega))); omega)), by first | omega | ((try (have i_t41 := Imp.go t41 (f43))); (try (have i_t34 := Imp.go t34 (f36))); omega) | ((try (have i_t41 := Imp.go t41 (by omega))); (try (have i_t40 := Imp.go t40 (by omega))); (try (have i_t34 := Imp.go t34 (by omega))); (try (have i_t33 := Imp.go t33 (by omega))); first | omega | ((try (have i_t33 := Imp.go t33 (by omega))); (try (have i_t34 := Imp.go t34 (by omega))); (try (have i_t40 := Imp.go t40 (by omega))); (try (have i_t41 := Imp.go t41 (by omega))); omega))⟩)) ⟨fun q => absurd q n1, fun q => absurd q n2, fun _ _ => ⟨t48.elim (fun q => Or.inl ⟨by rw [ez]; exact q.2, by decide⟩) (fun q => absurd q.1 (by omega)), by rw [ez]; exact ew44⟩⟩) (by first | exact om_5806eb61fe36 hn pq9 hz60 pq63 | first | omega | ((try (have i_t41 := Imp.go t41 (f43))); (try (have i_t34 := Imp.go t34 (f36))); omega) | ((try (have i_t41 := Imp.go t41 (by omega))); (try (have i_t40 := Imp.go t40 (by omega))); (try (have i_t34 := Imp.go t34 (by omega))); (try (have i_t33 := Imp.go t33 (by omega))); first | omega | ((try (have i_t33 := Imp.go t33 (by omega))); (try (have i_t34 := Imp.go t34 (by omega))); (try (have i_t40 := Imp.go t40 (by omega))); (try (have i_t41 := Imp.go t41 (by omega))); omega))) alL61 (agr.up (agr.up (agr.tr agr.rf ajV6 (by decide) (by decide)) hV29 rfl) hV59 rfl) hMV59 hP hD hS (lv_sub hl [1, 0, 5] rfl)
              · skip
                have f66 : z37.toInt ≠ 0 := b_neq rfl (by decide) c42
                have lp69 : ∀ (fulp69 : Nat) (y67 : Int64) (y68 : Int32) (H : Heap) (locs : List Loc) (ls : Array Slot), 0 ≤ y68.toInt ∧ y68.toInt ≤ 4000 → y4.toInt ≤ y68.toInt → y68.toInt ≤ (V29 0 3).toInt → (∀ k : Nat, y4.toInt ≤ (k : Int) → (k : Int) < y68.toInt → isDg (V 1 k)) → (y68.toInt - y4.toInt ≤ 9 → y67 = nv (V 1) (y4.toInt).toNat (y68.toInt - y4.toInt).toNat) → (V29 0 3).toInt - y68.toInt < (fulp69 : Int) → va_P D vwCl (mw ad kk ks.1 V29 L7) H → va_D A (mw ad kk ks.1 V29 L7) → va_S A s.heap H locs → lv_has ls 7 [(5, .long y67), (4, .int y4), (3, .int (V 1 (Int32.toNatClampNeg y4))), (2, .int y68), (1, .int y5), (0, .ref (ad 0))] → W p l e r_s_cutAll2 s m ([.ref (ad 0)] : List Value).toArray below meth c H locs 0 0 (MQ below (q_s_cutAll2 D ks ad kk V L  A) ([.ref (ad 0)] : List Value).toArray s 0 0 A) (F0 m 171 ls []) := by
                  intro fulp69
                  induction fulp69 with
                  | zero =>
                    intro y67 y68 H locs ls klp69_0 xlp69_0 xlp69_1 xlp69_2 xlp69_3 hn  hP hD hS hl
                    exfalso; (first | exact om_4634b1278845 xlp69_1 hn | omega)
                  | succ fulp69 ihlp69 =>
                    intro y67 y68 H locs ls klp69_0 xlp69_0 xlp69_1 xlp69_2 xlp69_3 hn  hP hD hS hl
                    have pq70 : (V29 0 3).toInt = ((V 0 2)).toInt := congrArg Int32.toInt ((up2_o hV29 (by decide)).trans ((ajV6 0 3 rfl).trans ((up2_k hV3 (by decide)).trans (up2_s hV2))))
                    refine lv_iload_n hx hb dX12_cutAll_171 rfl (lv_at hl 3 rfl) ?_
                    refine lv_aload_n hx hb dX12_cutAll_172 rfl (lv_at hl 5 rfl) ?_
                    refine va_get (D := D) (ci := 12) (v := .int (V29 0 3)) (C := RX12) (T := TX12) (N := 100) hx hb hg inX12 hown hK hP 0 rfl rfl 3 (by decide) (hg _ w1709) (fun _ h9 => h9) rfl dX12_cutAll_173 ?_
                    refine g_top (v := (V 0 2)) ((up2_o hV29 (by decide)).trans ((ajV6 0 3 rfl).trans ((up2_k hV3 (by decide)).trans (up2_s hV2)))) ?_
                    refine lv_icmp_ge (tgt := 231) hx hb dX12_cutAll_176 (by decide) (fun c71 => ?_) (fun c71 => ?_)
                    · skip
                      have f72 : ((V 0 2)).toInt ≤ y68.toInt := b_le rfl rfl c71
                      refine lv_aload_n hx hb dX12_cutAll_231 rfl (lv_at hl 5 rfl) ?_
                      refine va_get (D := D) (ci := 12) (v := .ref (ad 4)) (C := RX12) (T := TX12) (N := 100) hx hb hg inX12 hown hK hP 0 rfl rfl 4 (by decide) (hg _ w1710) (fun _ h9 => h9) rfl dX12_cutAll_232 ?_
                      refine lv_iload_n hx hb dX12_cutAll_235 rfl (lv_at hl 4 rfl) ?_
                      refine lv_iload_n hx hb dX12_cutAll_236 rfl (lv_at hl 3 rfl) ?_
                      refine lv_iload hx hb dX12_cutAll_237 (lv_at hl 1 rfl) ?_
                      refine lv_isub hx hb dX12_cutAll_239 ?_
                      refine lv_topi (fun z73 ez73 => ?_)
                      have hz73 : z73.toInt = y68.toInt - y4.toInt := i_sub ez73 rfl rfl (by (first | exact om_d1f36f80dece r1.2 klp8_0.1 f21 xlp69_1 pq70 f72 | omega))
                      refine lv_bipush (v := 9) hx hb dX12_cutAll_240 (by decide) ?_
                      refine lv_icmp_le (tgt := 249) hx hb dX12_cutAll_242 (by decide) (fun c74 => ?_) (fun c74 => ?_)
                      · skip
                        have f75 : z73.toInt ≤ 9 := b_le rfl (by decide) c74
                        refine lv_iconst (v := 2) hx hb dX12_cutAll_249 (by decide) ?_
                        refine va_iast (D := D) (i := y5) (x := 2) hx hb hK hP hD hS 2 1 rfl rfl (i_in (a := y5.toInt) rfl (by first | exact om_0b7a149ae3dd r1.2 klp8_1.1 xlp8_0 f21 | first | omega | ((try (have i_t40 := Imp.go t40 (imp_a (rgz37.1) (rgz37.2) (f66)))); (try (have i_t34 := Imp.go t34 (f36))); omega) | ((try (have i_t41 := Imp.go t41 (by omega))); (try (have i_t40 := Imp.go t40 (by omega))); (try (have i_t34 := Imp.go t34 (by omega))); (try (have i_t33 := Imp.go t33 (by omega))); first | omega | ((try (have i_t33 := Imp.go t33 (by omega))); (try (have i_t34 := Imp.go t34 (by omega))); (try (have i_t40 := Imp.go t40 (by omega))); (try (have i_t41 := Imp.go t41 (by omega))); omega)))) dX12_cutAll_250 (fun H locs hP hD hS => ?_)
                        obtain ⟨V76, hV76⟩ : ∃ z, z = up2 V29 4 (Int32.toNatClampNeg y5) 2 := ⟨_, rfl⟩
                        have hP : va_P D vwCl (mw ad kk ks.1 V76 L7) H := by rw [hV76]; exact hP
                        have hD : va_D A (mw ad kk ks.1 V76 L7) := by rw [hV76]; exact hD
                        have hMV76 : rgd bM V76 := hMV29.put hV76 (i_full _)
                        have agV76 : agr [(0, 2), (0, 3), (0, 7), (0, 8)] [4, 5, 6] V V76 := agV29.up hV76 rfl
                        refine lv_goto (tgt := 279) hx hb dX12_cutAll_251 (by decide) ?_
                        refine lv_aload_n hx hb dX12_cutAll_279 rfl (lv_at hl 5 rfl) ?_
                        refine va_get (D := D) (ci := 12) (v := .ref (ad 6)) (C := RX12) (T := TX12) (N := 100) hx hb hg inX12 hown hK hP 0 rfl rfl 6 (by decide) (hg _ w1712) (fun _ h9 => h9) rfl dX12_cutAll_280 ?_
                        refine lv_iload_n hx hb dX12_cutAll_283 rfl (lv_at hl 4 rfl) ?_
                        refine lv_lload hx hb dX12_cutAll_284 (lv_at hl 0 rfl) ?_
                        refine va_last (D := D) (i := y5) (x := y67) hx hb hK hP hD hS 4 3 rfl rfl (i_in (a := y5.toInt) rfl (by first | exact om_0b7a149ae3dd r1.2 klp8_1.1 xlp8_0 f21 | first | omega | ((try (have i_t40 := Imp.go t40 (imp_a (rgz37.1) (rgz37.2) (f66)))); (try (have i_t34 := Imp.go t34 (f36))); omega) | ((try (have i_t41 := Imp.go t41 (by omega))); (try (have i_t40 := Imp.go t40 (by omega))); (try (have i_t34 := Imp.go t34 (by omega))); (try (have i_t33 := Imp.go t33 (by omega))); first | omega | ((try (have i_t33 := Imp.go t33 (by omega))); (try (have i_t34 := Imp.go t34 (by omega))); (try (have i_t40 := Imp.go t40 (by omega))); (try (have i_t41 := Imp.go t41 (by omega))); omega)))) dX12_cutAll_286 (fun H locs hP hD hS => ?_)
                        obtain ⟨L77, hL77⟩ : ∃ z, z = upL L7 6 (Int32.toNatClampNeg y5) y67 := ⟨_, rfl⟩
                        have hP : va_P D vwCl (mw ad kk ks.1 V76 L77) H := by rw [hL77]; exact hP
                        have hD : va_D A (mw ad kk ks.1 V76 L77) := by rw [hL77]; exact hD
                        have alL77 : agL [4, 5, 6] L L77 := agL.up alL7 hL77 rfl
                        obtain ⟨z78, ez78⟩ : ∃ y : Int32, y = y5 + 1 := ⟨_, rfl⟩
                        have hz78 : z78.toInt = y5.toInt + 1 := i_add ez78 rfl (by decide) (by (first | exact om_2a57709bda2c r1.2 klp8_1.1 xlp8_0 f21 | omega))
                        refine lv_iinc (v := z78) (lv' := [(1, .int z78), (5, .long y67), (4, .int y4), (3, .int (V 1 (Int32.toNatClampNeg y4))), (2, .int y68), (0, .ref (ad 0))]) hx hb dX12_cutAll_287 hl (k := 4) rfl (by rw [ez78]; rfl) (by decide) rfl (fun ls hl => ?_)
                        refine lv_goto (tgt := 17) hx hb dX12_cutAll_290 (by decide) ?_
                        have pq79 : (V76 0 3).toInt = ((V 0 2)).toInt := congrArg Int32.toInt ((up2_o hV76 (by decide)).trans ((up2_o hV29 (by decide)).trans ((ajV6 0 3 rfl).trans ((up2_k hV3 (by decide)).trans (up2_s hV2)))))
                        have kz80 := i_clamp (x := y4) rfl (by (first | exact om_12cf676bc652 klp8_1.1 xlp8_0 | omega))
                        have ez : y4.toInt.toNat = Int32.toNatClampNeg y4 := by (first | exact om_4078e7023535 klp8_1.1 xlp8_0 kz80 | omega)
                        have kz81 := i_clamp (x := y5) rfl (by (first | exact om_eafa9039069c klp8_1.1 | omega))
                        have hd9 : isDg (V 1 y4.toInt.toNat) := by rw [ez]; exact Imp.go t40 (by (first | exact om_2ebe32d50835 rgz37.1 rgz37.2 f66 | omega))
                        have hl0 : y4.toInt.toNat < y68.toInt.toNat := by first | exact om_1235ee861d95 f21 f72 kz80 ez | first | omega | ((try (have i_t40 := Imp.go t40 (imp_a (rgz37.1) (rgz37.2) (f66)))); (try (have i_t34 := Imp.go t34 (f36))); omega) | ((try (have i_t41 := Imp.go t41 (by omega))); (try (have i_t40 := Imp.go t40 (by omega))); (try (have i_t34 := Imp.go t34 (by omega))); (try (have i_t33 := Imp.go t33 (by omega))); first | omega | ((try (have i_t33 := Imp.go t33 (by omega))); (try (have i_t34 := Imp.go t34 (by omega))); (try (have i_t40 := Imp.go t40 (by omega))); (try (have i_t41 := Imp.go t41 (by omega))); omega))
                        have hrun : RUN isDg (V 1) (V 0 2).toInt.toNat y4.toInt.toNat y68.toInt.toNat := ⟨hl0, by first | omega | ((try (have i_t40 := Imp.go t40 (imp_a (rgz37.1) (rgz37.2) (f66)))); (try (have i_t34 := Imp.go t34 (f36))); omega) | ((try (have i_t41 := Imp.go t41 (by omega))); (try (have i_t40 := Imp.go t40 (by omega))); (try (have i_t34 := Imp.go t34 (by omega))); (try (have i_t33 := Imp.go t33 (by omega))); first | omega | ((try (have i_t33 := Imp.go t33 (by omega))); (try (have i_t34 := Imp.go t34 (by omega))); (try (have i_t40 := Imp.go t40 (by omega))); (try (have i_t41 := Imp.go t41 (by omega))); omega)), fun k a b => xlp69_2 k (by omega) (by omega), Or.inl (by first | omega | ((try (have i_t40 := Imp.go t40 (imp_a (rgz37.1) (rgz37.2) (f66)))); (try (have i_t34 := Imp.go t34 (f36))); omega) | ((try (have i_t41 := Imp.go t41 (by omega))); (try (have i_t40 := Imp.go t40 (by omega))); (try (have i_t34 := Imp.go t34 (by omega))); (try (have i_t33 := Imp.go t33 (by omega))); first | omega | ((try (have i_t33 := Imp.go t33 (by omega))); (try (have i_t34 := Imp.go t34 (by omega))); (try (have i_t40 := Imp.go t40 (by omega))); (try (have i_t41 := Imp.go t41 (by omega))); omega)))⟩
                        exact ihlp8 y68 z78 V76 L77 H locs ls (by first | exact om_1e9f8c1f3f02 r1.2 f21 xlp69_1 pq70 f72 kz80 | first | omega | ((try (have i_t40 := Imp.go t40 (imp_a (rgz37.1) (rgz37.2) (f66)))); (try (have i_t34 := Imp.go t34 (f36))); omega) | ((try (have i_t41 := Imp.go t41 (by omega))); (try (have i_t40 := Imp.go t40 (by omega))); (try (have i_t34 := Imp.go t34 (by omega))); (try (have i_t33 := Imp.go t33 (by omega))); first | omega | ((try (have i_t33 := Imp.go t33 (by omega))); (try (have i_t34 := Imp.go t34 (by omega))); (try (have i_t40 := Imp.go t40 (by omega))); (try (have i_t41 := Imp.go t41 (by omega))); omega))) (by first | exact om_4a99a0b23375 r1.2 klp8_1.1 xlp8_0 f21 hz78 | first | omega | ((try (have i_t40 := Imp.go t40 (imp_a (rgz37.1) (rgz37.2) (f66)))); (try (have i_t34 := Imp.go t34 (f36))); omega) | ((try (have i_t41 := Imp.go t41 (by omega))); (try (have i_t40 := Imp.go t40 (by omega))); (try (have i_t34 := Imp.go t34 (by omega))); (try (have i_t33 := Imp.go t33 (by omega))); first | omega | ((try (have i_t33 := Imp.go t33 (by omega))); (try (have i_t34 := Imp.go t34 (by omega))); (try (have i_t40 := Imp.go t40 (by omega))); (try (have i_t41 := Imp.go t41 (by omega))); omega))) (show z78.toInt ≤ y68.toInt from by first | exact om_adf5f0c9db78 xlp8_0 f21 f72 hz78 | first | omega | ((try (have i_t40 := Imp.go t40 (imp_a (rgz37.1) (rgz37.2) (f66)))); (try (have i_t34 := Imp.go t34 (f36))); omega) | ((try (have i_t41 := Imp.go t41 (by omega))); (try (have i_t40 := Imp.go t40 (by omega))); (try (have i_t34 := Imp.go t34 (by omega))); (try (have i_t33 := Imp.go t33 (by omega))); first | omega | ((try (have i_t33 := Imp.go t33 (by omega))); (try (have i_t34 := Imp.go t34 (by omega))); (try (have i_t40 := Imp.go t40 (by omega))); (try (have i_t41 := Imp.go t41 (by omega))); omega))) (show y68.toInt ≤ (V76 0 3).toInt from by first | exact om_550af7e7eacc xlp69_1 pq70 pq79 | first | omega | ((try (have i_t40 := Imp.go t40 (imp_a (rgz37.1) (rgz37.2) (f66)))); (try (have i_t34 := Imp.go t34 (f36))); omega) | ((try (have i_t41 := Imp.go t41 (by omega))); (try (have i_t40 := Imp.go t40 (by omega))); (try (have i_t34 := Imp.go t34 (by omega))); (try (have i_t33 := Imp.go t33 (by omega))); first | omega | ((try (have i_t33 := Imp.go t33 (by omega))); (try (have i_t34 := Imp.go t34 (by omega))); (try (have i_t40 := Imp.go t40 (by omega))); (try (have i_t41 := Imp.go t41 (by omega))); omega))) (RTq.tk (t := y5.toInt.toNat) (p := y4.toInt.toNat) (e := y68.toInt.toNat) xlp8_2 hV29 hV76 hL77 (by omega) (by first | omega | ((try (have i_t40 := Imp.go t40 (imp_a (rgz37.1) (rgz37.2) (f66)))); (try (have i_t34 := Imp.go t34 (f36))); omega) | ((try (have i_t41 := Imp.go t41 (by omega))); (try (have i_t40 := Imp.go t40 (by omega))); (try (have i_t34 := Imp.go t34 (by omega))); (try (have i_t33 := Imp.go t33 (by omega))); first | omega | ((try (have i_t33 := Imp.go t33 (by omega))); (try (have i_t34 := Imp.go t34 (by omega))); (try (have i_t40 := Imp.go t40 (by omega))); (try (have i_t41 := Imp.go t41 (by omega))); omega))) rfl (by omega) (by rw [ez]; unfold isBl; omega) (Or.inl ⟨hd9, hrun⟩) ⟨fun _ => ⟨fun h => absurd h (by first | omega | ((try (have i_t40 := Imp.go t40 (imp_a (rgz37.1) (rgz37.2) (f66)))); (try (have i_t34 := Imp.go t34 (f36))); omega) | ((try (have i_t41 := Imp.go t41 (by omega))); (try (have i_t40 := Imp.go t40 (by omega))); (try (have i_t34 := Imp.go t34 (by omega))); (try (have i_t33 := Imp.go t33 (by omega))); first | omega | ((try (have i_t33 := Imp.go t33 (by omega))); (try (have i_t34 := Imp.go t34 (by omega))); (try (have i_t40 := Imp.go t40 (by omega))); (try (have i_t41 := Imp.go t41 (by omega))); omega))), fun h => ⟨by decide, by have z9 := xlp69_3 (by first | omega | ((try (have i_t40 := Imp.go t40 (imp_a (rgz37.1) (rgz37.2) (f66)))); (try (have i_t34 := Imp.go t34 (f36))); omega) | ((try (have i_t41 := Imp.go t41 (by omega))); (try (have i_t40 := Imp.go t40 (by omega))); (try (have i_t34 := Imp.go t34 (by omega))); (try (have i_t33 := Imp.go t33 (by omega))); first | omega | ((try (have i_t33 := Imp.go t33 (by omega))); (try (have i_t34 := Imp.go t34 (by omega))); (try (have i_t40 := Imp.go t40 (by omega))); (try (have i_t41 := Imp.go t41 (by omega))); omega))); rw [show (y68.toInt - y4.toInt).toNat = y68.toInt.toNat - y4.toInt.toNat from by omega] at z9; exact z9⟩⟩, fun q => absurd q (fun q => dg_lt hd9 q), fun q => absurd hd9 q⟩) (by first | omega | ((try (have i_t40 := Imp.go t40 (imp_a (rgz37.1) (rgz37.2) (f66)))); (try (have i_t34 := Imp.go t34 (f36))); omega) | ((try (have i_t41 := Imp.go t41 (by omega))); (try (have i_t40 := Imp.go t40 (by omega))); (try (have i_t34 := Imp.go t34 (by omega))); (try (have i_t33 := Imp.go t33 (by omega))); first | omega | ((try (have i_t33 := Imp.go t33 (by omega))); (try (have i_t34 := Imp.go t34 (by omega))); (try (have i_t40 := Imp.go t40 (by omega))); (try (have i_t41 := Imp.go t41 (by omega))); omega))) alL77 (agr.up (agr.up (agr.tr agr.rf ajV6 (by decide) (by decide)) hV29 rfl) hV76 rfl) hMV76 hP hD hS (lv_sub hl [4, 0, 5] rfl)
                      · skip
                        have f82 : 9 < z73.toInt := b_nle rfl (by decide) c74
                        refine lv_iconst (v := 4) hx hb dX12_cutAll_245 (by decide) ?_
                        refine lv_goto (tgt := 250) hx hb dX12_cutAll_246 (by decide) ?_
                        refine va_iast (D := D) (i := y5) (x := 4) hx hb hK hP hD hS 2 1 rfl rfl (i_in (a := y5.toInt) rfl (by first | exact om_3953a0779941 r1.2 klp8_1.1 xlp8_0 xlp69_1 pq70 hz73 f82 | first | omega | ((try (have i_t40 := Imp.go t40 (imp_a (rgz37.1) (rgz37.2) (f66)))); (try (have i_t34 := Imp.go t34 (f36))); omega) | ((try (have i_t41 := Imp.go t41 (by omega))); (try (have i_t40 := Imp.go t40 (by omega))); (try (have i_t34 := Imp.go t34 (by omega))); (try (have i_t33 := Imp.go t33 (by omega))); first | omega | ((try (have i_t33 := Imp.go t33 (by omega))); (try (have i_t34 := Imp.go t34 (by omega))); (try (have i_t40 := Imp.go t40 (by omega))); (try (have i_t41 := Imp.go t41 (by omega))); omega)))) dX12_cutAll_250 (fun H locs hP hD hS => ?_)
                        obtain ⟨V83, hV83⟩ : ∃ z, z = up2 V29 4 (Int32.toNatClampNeg y5) 4 := ⟨_, rfl⟩
                        have hP : va_P D vwCl (mw ad kk ks.1 V83 L7) H := by rw [hV83]; exact hP
                        have hD : va_D A (mw ad kk ks.1 V83 L7) := by rw [hV83]; exact hD
                        have hMV83 : rgd bM V83 := hMV29.put hV83 (i_full _)
                        have agV83 : agr [(0, 2), (0, 3), (0, 7), (0, 8)] [4, 5, 6] V V83 := agV29.up hV83 rfl
                        refine lv_goto (tgt := 279) hx hb dX12_cutAll_251 (by decide) ?_
                        refine lv_aload_n hx hb dX12_cutAll_279 rfl (lv_at hl 5 rfl) ?_
                        refine va_get (D := D) (ci := 12) (v := .ref (ad 6)) (C := RX12) (T := TX12) (N := 100) hx hb hg inX12 hown hK hP 0 rfl rfl 6 (by decide) (hg _ w1712) (fun _ h9 => h9) rfl dX12_cutAll_280 ?_
                        refine lv_iload_n hx hb dX12_cutAll_283 rfl (lv_at hl 4 rfl) ?_
                        refine lv_lload hx hb dX12_cutAll_284 (lv_at hl 0 rfl) ?_
                        refine va_last (D := D) (i := y5) (x := y67) hx hb hK hP hD hS 4 3 rfl rfl (i_in (a := y5.toInt) rfl (by first | exact om_3953a0779941 r1.2 klp8_1.1 xlp8_0 xlp69_1 pq70 hz73 f82 | first | omega | ((try (have i_t40 := Imp.go t40 (imp_a (rgz37.1) (rgz37.2) (f66)))); (try (have i_t34 := Imp.go t34 (f36))); omega) | ((try (have i_t41 := Imp.go t41 (by omega))); (try (have i_t40 := Imp.go t40 (by omega))); (try (have i_t34 := Imp.go t34 (by omega))); (try (have i_t33 := Imp.go t33 (by omega))); first | omega | ((try (have i_t33 := Imp.go t33 (by omega))); (try (have i_t34 := Imp.go t34 (by omega))); (try (have i_t40 := Imp.go t40 (by omega))); (try (have i_t41 := Imp.go t41 (by omega))); omega)))) dX12_cutAll_286 (fun H locs hP hD hS => ?_)
                        obtain ⟨L84, hL84⟩ : ∃ z, z = upL L7 6 (Int32.toNatClampNeg y5) y67 := ⟨_, rfl⟩
                        have hP : va_P D vwCl (mw ad kk ks.1 V83 L84) H := by rw [hL84]; exact hP
                        have hD : va_D A (mw ad kk ks.1 V83 L84) := by rw [hL84]; exact hD
                        have alL84 : agL [4, 5, 6] L L84 := agL.up alL7 hL84 rfl
                        obtain ⟨z85, ez85⟩ : ∃ y : Int32, y = y5 + 1 := ⟨_, rfl⟩
                        have hz85 : z85.toInt = y5.toInt + 1 := i_add ez85 rfl (by decide) (by (first | exact om_f1869f26ce78 r1.2 klp8_1.1 xlp8_0 xlp69_1 pq70 hz73 f82 | omega))
                        refine lv_iinc (v := z85) (lv' := [(1, .int z85), (5, .long y67), (4, .int y4), (3, .int (V 1 (Int32.toNatClampNeg y4))), (2, .int y68), (0, .ref (ad 0))]) hx hb dX12_cutAll_287 hl (k := 4) rfl (by rw [ez85]; rfl) (by decide) rfl (fun ls hl => ?_)
                        refine lv_goto (tgt := 17) hx hb dX12_cutAll_290 (by decide) ?_
                        have pq86 : (V83 0 3).toInt = ((V 0 2)).toInt := congrArg Int32.toInt ((up2_o hV83 (by decide)).trans ((up2_o hV29 (by decide)).trans ((ajV6 0 3 rfl).trans ((up2_k hV3 (by decide)).trans (up2_s hV2)))))
                        have kz87 := i_clamp (x := y4) rfl (by (first | exact om_12cf676bc652 klp8_1.1 xlp8_0 | omega))
                        have ez : y4.toInt.toNat = Int32.toNatClampNeg y4 := by (first | exact om_4078e7023535 klp8_1.1 xlp8_0 kz87 | omega)
                        have kz88 := i_clamp (x := y5) rfl (by (first | exact om_eafa9039069c klp8_1.1 | omega))
                        have hd9 : isDg (V 1 y4.toInt.toNat) := by rw [ez]; exact Imp.go t40 (by (first | exact om_2ebe32d50835 rgz37.1 rgz37.2 f66 | omega))
                        have hl0 : y4.toInt.toNat < y68.toInt.toNat := by first | exact om_e0ec5dee3879 hz73 f82 kz87 ez | first | omega | ((try (have i_t40 := Imp.go t40 (imp_a (rgz37.1) (rgz37.2) (f66)))); (try (have i_t34 := Imp.go t34 (f36))); omega) | ((try (have i_t41 := Imp.go t41 (by omega))); (try (have i_t40 := Imp.go t40 (by omega))); (try (have i_t34 := Imp.go t34 (by omega))); (try (have i_t33 := Imp.go t33 (by omega))); first | omega | ((try (have i_t33 := Imp.go t33 (by omega))); (try (have i_t34 := Imp.go t34 (by omega))); (try (have i_t40 := Imp.go t40 (by omega))); (try (have i_t41 := Imp.go t41 (by omega))); omega))
                        have hrun : RUN isDg (V 1) (V 0 2).toInt.toNat y4.toInt.toNat y68.toInt.toNat := ⟨hl0, by first | omega | ((try (have i_t40 := Imp.go t40 (imp_a (rgz37.1) (rgz37.2) (f66)))); (try (have i_t34 := Imp.go t34 (f36))); omega) | ((try (have i_t41 := Imp.go t41 (by omega))); (try (have i_t40 := Imp.go t40 (by omega))); (try (have i_t34 := Imp.go t34 (by omega))); (try (have i_t33 := Imp.go t33 (by omega))); first | omega | ((try (have i_t33 := Imp.go t33 (by omega))); (try (have i_t34 := Imp.go t34 (by omega))); (try (have i_t40 := Imp.go t40 (by omega))); (try (have i_t41 := Imp.go t41 (by omega))); omega)), fun k a b => xlp69_2 k (by omega) (by omega), Or.inl (by first | omega | ((try (have i_t40 := Imp.go t40 (imp_a (rgz37.1) (rgz37.2) (f66)))); (try (have i_t34 := Imp.go t34 (f36))); omega) | ((try (have i_t41 := Imp.go t41 (by omega))); (try (have i_t40 := Imp.go t40 (by omega))); (try (have i_t34 := Imp.go t34 (by omega))); (try (have i_t33 := Imp.go t33 (by omega))); first | omega | ((try (have i_t33 := Imp.go t33 (by omega))); (try (have i_t34 := Imp.go t34 (by omega))); (try (have i_t40 := Imp.go t40 (by omega))); (try (have i_t41 := Imp.go t41 (by omega))); omega)))⟩
                        exact ihlp8 y68 z85 V83 L84 H locs ls (by first | exact om_6a07effa0c89 r1.2 xlp69_1 pq70 hz73 f82 kz87 | first | omega | ((try (have i_t40 := Imp.go t40 (imp_a (rgz37.1) (rgz37.2) (f66)))); (try (have i_t34 := Imp.go t34 (f36))); omega) | ((try (have i_t41 := Imp.go t41 (by omega))); (try (have i_t40 := Imp.go t40 (by omega))); (try (have i_t34 := Imp.go t34 (by omega))); (try (have i_t33 := Imp.go t33 (by omega))); first | omega | ((try (have i_t33 := Imp.go t33 (by omega))); (try (have i_t34 := Imp.go t34 (by omega))); (try (have i_t40 := Imp.go t40 (by omega))); (try (have i_t41 := Imp.go t41 (by omega))); omega))) (by first | exact om_43ba304d22b8 r1.2 klp8_1.1 xlp8_0 xlp69_1 pq70 hz73 f82 hz85 | first | omega | ((try (have i_t40 := Imp.go t40 (imp_a (rgz37.1) (rgz37.2) (f66)))); (try (have i_t34 := Imp.go t34 (f36))); omega) | ((try (have i_t41 := Imp.go t41 (by omega))); (try (have i_t40 := Imp.go t40 (by omega))); (try (have i_t34 := Imp.go t34 (by omega))); (try (have i_t33 := Imp.go t33 (by omega))); first | omega | ((try (have i_t33 := Imp.go t33 (by omega))); (try (have i_t34 := Imp.go t34 (by omega))); (try (have i_t40 := Imp.go t40 (by omega))); (try (have i_t41 := Imp.go t41 (by omega))); omega))) (show z85.toInt ≤ y68.toInt from by first | exact om_e2cfe420e9a9 xlp8_0 hz73 f82 hz85 | first | omega | ((try (have i_t40 := Imp.go t40 (imp_a (rgz37.1) (rgz37.2) (f66)))); (try (have i_t34 := Imp.go t34 (f36))); omega) | ((try (have i_t41 := Imp.go t41 (by omega))); (try (have i_t40 := Imp.go t40 (by omega))); (try (have i_t34 := Imp.go t34 (by omega))); (try (have i_t33 := Imp.go t33 (by omega))); first | omega | ((try (have i_t33 := Imp.go t33 (by omega))); (try (have i_t34 := Imp.go t34 (by omega))); (try (have i_t40 := Imp.go t40 (by omega))); (try (have i_t41 := Imp.go t41 (by omega))); omega))) (show y68.toInt ≤ (V83 0 3).toInt from by first | exact om_550af7e7eacc xlp69_1 pq70 pq86 | first | omega | ((try (have i_t40 := Imp.go t40 (imp_a (rgz37.1) (rgz37.2) (f66)))); (try (have i_t34 := Imp.go t34 (f36))); omega) | ((try (have i_t41 := Imp.go t41 (by omega))); (try (have i_t40 := Imp.go t40 (by omega))); (try (have i_t34 := Imp.go t34 (by omega))); (try (have i_t33 := Imp.go t33 (by omega))); first | omega | ((try (have i_t33 := Imp.go t33 (by omega))); (try (have i_t34 := Imp.go t34 (by omega))); (try (have i_t40 := Imp.go t40 (by omega))); (try (have i_t41 := Imp.go t41 (by omega))); omega))) (RTq.tk (t := y5.toInt.toNat) (p := y4.toInt.toNat) (e := y68.toInt.toNat) xlp8_2 hV29 hV83 hL84 (by omega) (by first | omega | ((try (have i_t40 := Imp.go t40 (imp_a (rgz37.1) (rgz37.2) (f66)))); (try (have i_t34 := Imp.go t34 (f36))); omega) | ((try (have i_t41 := Imp.go t41 (by omega))); (try (have i_t40 := Imp.go t40 (by omega))); (try (have i_t34 := Imp.go t34 (by omega))); (try (have i_t33 := Imp.go t33 (by omega))); first | omega | ((try (have i_t33 := Imp.go t33 (by omega))); (try (have i_t34 := Imp.go t34 (by omega))); (try (have i_t40 := Imp.go t40 (by omega))); (try (have i_t41 := Imp.go t41 (by omega))); omega))) rfl (by omega) (by rw [ez]; unfold isBl; omega) (Or.inl ⟨hd9, hrun⟩) ⟨fun _ => ⟨fun _ => by decide, fun h => absurd h (by first | omega | ((try (have i_t40 := Imp.go t40 (imp_a (rgz37.1) (rgz37.2) (f66)))); (try (have i_t34 := Imp.go t34 (f36))); omega) | ((try (have i_t41 := Imp.go t41 (by omega))); (try (have i_t40 := Imp.go t40 (by omega))); (try (have i_t34 := Imp.go t34 (by omega))); (try (have i_t33 := Imp.go t33 (by omega))); first | omega | ((try (have i_t33 := Imp.go t33 (by omega))); (try (have i_t34 := Imp.go t34 (by omega))); (try (have i_t40 := Imp.go t40 (by omega))); (try (have i_t41 := Imp.go t41 (by omega))); omega)))⟩, fun q => absurd q (fun q => dg_lt hd9 q), fun q => absurd hd9 q⟩) (by first | omega | ((try (have i_t40 := Imp.go t40 (imp_a (rgz37.1) (rgz37.2) (f66)))); (try (have i_t34 := Imp.go t34 (f36))); omega) | ((try (have i_t41 := Imp.go t41 (by omega))); (try (have i_t40 := Imp.go t40 (by omega))); (try (have i_t34 := Imp.go t34 (by omega))); (try (have i_t33 := Imp.go t33 (by omega))); first | omega | ((try (have i_t33 := Imp.go t33 (by omega))); (try (have i_t34 := Imp.go t34 (by omega))); (try (have i_t40 := Imp.go t40 (by omega))); (try (have i_t41 := Imp.go t41 (by omega))); omega))) alL84 (agr.up (agr.up (agr.tr agr.rf ajV6 (by decide) (by decide)) hV29 rfl) hV83 rfl) hMV83 hP hD hS (lv_sub hl [4, 0, 5] rfl)
                    · skip
                      have f89 : y68.toInt < ((V 0 2)).toInt := b_nle rfl rfl c71
                      refine lv_aload_n hx hb dX12_cutAll_179 rfl (lv_at hl 5 rfl) ?_
                      refine va_get (D := D) (ci := 12) (v := .ref (ad 1)) (C := RX12) (T := TX12) (N := 100) hx hb hg inX12 hown hK hP 0 rfl rfl 1 (by decide) (hg _ w1707) (fun _ h9 => h9) rfl dX12_cutAll_180 ?_
                      refine lv_iload_n hx hb dX12_cutAll_183 rfl (lv_at hl 3 rfl) ?_
                      refine va_iald (D := D) (i := y68) hx hb hK hP 1 0 rfl rfl (i_in (a := y68.toInt) rfl (by first | exact om_ae1ad81edeff r1.2 klp69_0.1 f89 | first | omega | ((try (have i_t40 := Imp.go t40 (imp_a (rgz37.1) (rgz37.2) (f66)))); (try (have i_t34 := Imp.go t34 (f36))); omega) | ((try (have i_t41 := Imp.go t41 (by omega))); (try (have i_t40 := Imp.go t40 (by omega))); (try (have i_t34 := Imp.go t34 (by omega))); (try (have i_t33 := Imp.go t33 (by omega))); first | omega | ((try (have i_t33 := Imp.go t33 (by omega))); (try (have i_t34 := Imp.go t34 (by omega))); (try (have i_t40 := Imp.go t40 (by omega))); (try (have i_t41 := Imp.go t41 (by omega))); omega)))) dX12_cutAll_184 ?_
                      refine g_top (v := (V 1 (Int32.toNatClampNeg y68))) ((up2_o hV29 (by decide)).trans ((ajV6 1 (Int32.toNatClampNeg y68) rfl).trans ((up2_o hV3 (by decide)).trans (up2_o hV2 (by decide))))) ?_
                      refine gE_int (g_runS (As := [.int (V 1 (Int32.toNatClampNeg y68))]) (rest := []) (wc := []) (tc := []) hx hb hml hown hg gw_self hP hD hK hS hA hnw hgk [] [] (by decide) rfl rfl (s_isDigit l D ks H.size (V 1 (Int32.toNatClampNeg y68)) ) w2015 w2016 w172 w2017 hdS_yX12_isDigit ⟨Nat.le_of_ble_eq_true rfl, Nat.le_of_ble_eq_true rfl⟩ rfl hl.1 rfl (Nat.le_of_ble_eq_true rfl) dX12_cutAll_185 ⟨Nat.le_of_ble_eq_true rfl, Nat.le_of_ble_eq_true rfl⟩) hP hD hK hS hA (fun z90 u91 H locs w92 hP hD hK hS => ?_)
                      obtain ⟨rgz90, t93, t94⟩ := w92
                      have rgz90 : 0 ≤ z90.toInt ∧ z90.toInt ≤ 1 := rgz90
                      have t93 : Imp (z90.toInt = 1) (48 ≤ ((V 1 (Int32.toNatClampNeg y68))).toInt ∧ ((V 1 (Int32.toNatClampNeg y68))).toInt ≤ 57) := t93
                      have t94 : Imp (z90.toInt = 0) (((V 1 (Int32.toNatClampNeg y68))).toInt < 48 ∨ 57 < ((V 1 (Int32.toNatClampNeg y68))).toInt) := t94
                      refine lv_if_eq (tgt := 231) hx hb dX12_cutAll_188 (by decide) (fun c95 => ?_) (fun c95 => ?_)
                      · skip
                        have f96 : z90.toInt = 0 := b_eq rfl (by decide) c95
                        refine lv_aload_n hx hb dX12_cutAll_231 rfl (lv_at hl 5 rfl) ?_
                        refine va_get (D := D) (ci := 12) (v := .ref (ad 4)) (C := RX12) (T := TX12) (N := 100) hx hb hg inX12 hown hK hP 0 rfl rfl 4 (by decide) (hg _ w1710) (fun _ h9 => h9) rfl dX12_cutAll_232 ?_
                        refine lv_iload_n hx hb dX12_cutAll_235 rfl (lv_at hl 4 rfl) ?_
                        refine lv_iload_n hx hb dX12_cutAll_236 rfl (lv_at hl 3 rfl) ?_
                        refine lv_iload hx hb dX12_cutAll_237 (lv_at hl 1 rfl) ?_
                        refine lv_isub hx hb dX12_cutAll_239 ?_
                        refine lv_topi (fun z97 ez97 => ?_)
                        have hz97 : z97.toInt = y68.toInt - y4.toInt := i_sub ez97 rfl rfl (by (first | exact om_3e0184275307 r1.2 klp8_0.1 xlp69_0 f89 | omega))
                        refine lv_bipush (v := 9) hx hb dX12_cutAll_240 (by decide) ?_
                        refine lv_icmp_le (tgt := 249) hx hb dX12_cutAll_242 (by decide) (fun c98 => ?_) (fun c98 => ?_)
                        · skip
                          have f99 : z97.toInt ≤ 9 := b_le rfl (by decide) c98
                          refine lv_iconst (v := 2) hx hb dX12_cutAll_249 (by decide) ?_
                          refine va_iast (D := D) (i := y5) (x := 2) hx hb hK hP hD hS 2 1 rfl rfl (i_in (a := y5.toInt) rfl (by first | exact om_aa98f8f91ce4 r1.2 klp8_1.1 xlp8_0 xlp69_0 f89 | first | omega | ((try (have i_t94 := Imp.go t94 (f96))); (try (have i_t40 := Imp.go t40 (imp_a (rgz37.1) (rgz37.2) (f66)))); (try (have i_t34 := Imp.go t34 (f36))); omega) | ((try (have i_t94 := Imp.go t94 (by omega))); (try (have i_t93 := Imp.go t93 (by omega))); (try (have i_t41 := Imp.go t41 (by omega))); (try (have i_t40 := Imp.go t40 (by omega))); first | omega | ((try (have i_t34 := Imp.go t34 (by omega))); (try (have i_t33 := Imp.go t33 (by omega))); (try (have i_t33 := Imp.go t33 (by omega))); (try (have i_t34 := Imp.go t34 (by omega))); first | omega | ((try (have i_t40 := Imp.go t40 (by omega))); (try (have i_t41 := Imp.go t41 (by omega))); (try (have i_t93 := Imp.go t93 (by omega))); (try (have i_t94 := Imp.go t94 (by omega))); omega))))) dX12_cutAll_250 (fun H locs hP hD hS => ?_)
                          obtain ⟨V100, hV100⟩ : ∃ z, z = up2 V29 4 (Int32.toNatClampNeg y5) 2 := ⟨_, rfl⟩
                          have hP : va_P D vwCl (mw ad kk ks.1 V100 L7) H := by rw [hV100]; exact hP
                          have hD : va_D A (mw ad kk ks.1 V100 L7) := by rw [hV100]; exact hD
                          have hMV100 : rgd bM V100 := hMV29.put hV100 (i_full _)
                          have agV100 : agr [(0, 2), (0, 3), (0, 7), (0, 8)] [4, 5, 6] V V100 := agV29.up hV100 rfl
                          refine lv_goto (tgt := 279) hx hb dX12_cutAll_251 (by decide) ?_
                          refine lv_aload_n hx hb dX12_cutAll_279 rfl (lv_at hl 5 rfl) ?_
                          refine va_get (D := D) (ci := 12) (v := .ref (ad 6)) (C := RX12) (T := TX12) (N := 100) hx hb hg inX12 hown hK hP 0 rfl rfl 6 (by decide) (hg _ w1712) (fun _ h9 => h9) rfl dX12_cutAll_280 ?_
                          refine lv_iload_n hx hb dX12_cutAll_283 rfl (lv_at hl 4 rfl) ?_
                          refine lv_lload hx hb dX12_cutAll_284 (lv_at hl 0 rfl) ?_
                          refine va_last (D := D) (i := y5) (x := y67) hx hb hK hP hD hS 4 3 rfl rfl (i_in (a := y5.toInt) rfl (by first | exact om_aa98f8f91ce4 r1.2 klp8_1.1 xlp8_0 xlp69_0 f89 | first | omega | ((try (have i_t94 := Imp.go t94 (f96))); (try (have i_t40 := Imp.go t40 (imp_a (rgz37.1) (rgz37.2) (f66)))); (try (have i_t34 := Imp.go t34 (f36))); omega) | ((try (have i_t94 := Imp.go t94 (by omega))); (try (have i_t93 := Imp.go t93 (by omega))); (try (have i_t41 := Imp.go t41 (by omega))); (try (have i_t40 := Imp.go t40 (by omega))); first | omega | ((try (have i_t34 := Imp.go t34 (by omega))); (try (have i_t33 := Imp.go t33 (by omega))); (try (have i_t33 := Imp.go t33 (by omega))); (try (have i_t34 := Imp.go t34 (by omega))); first | omega | ((try (have i_t40 := Imp.go t40 (by omega))); (try (have i_t41 := Imp.go t41 (by omega))); (try (have i_t93 := Imp.go t93 (by omega))); (try (have i_t94 := Imp.go t94 (by omega))); omega))))) dX12_cutAll_286 (fun H locs hP hD hS => ?_)
                          obtain ⟨L101, hL101⟩ : ∃ z, z = upL L7 6 (Int32.toNatClampNeg y5) y67 := ⟨_, rfl⟩
                          have hP : va_P D vwCl (mw ad kk ks.1 V100 L101) H := by rw [hL101]; exact hP
                          have hD : va_D A (mw ad kk ks.1 V100 L101) := by rw [hL101]; exact hD
                          have alL101 : agL [4, 5, 6] L L101 := agL.up alL7 hL101 rfl
                          obtain ⟨z102, ez102⟩ : ∃ y : Int32, y = y5 + 1 := ⟨_, rfl⟩
                          have hz102 : z102.toInt = y5.toInt + 1 := i_add ez102 rfl (by decide) (by (first | exact om_30d39efafedb r1.2 klp8_1.1 xlp8_0 xlp69_0 f89 | omega))
                          refine lv_iinc (v := z102) (lv' := [(1, .int z102), (5, .long y67), (4, .int y4), (3, .int (V 1 (Int32.toNatClampNeg y4))), (2, .int y68), (0, .ref (ad 0))]) hx hb dX12_cutAll_287 hl (k := 4) rfl (by rw [ez102]; rfl) (by decide) rfl (fun ls hl => ?_)
                          refine lv_goto (tgt := 17) hx hb dX12_cutAll_290 (by decide) ?_
                          have pq103 : (V100 0 3).toInt = ((V 0 2)).toInt := congrArg Int32.toInt ((up2_o hV100 (by decide)).trans ((up2_o hV29 (by decide)).trans ((ajV6 0 3 rfl).trans ((up2_k hV3 (by decide)).trans (up2_s hV2)))))
                          have kz104 := i_clamp (x := y4) rfl (by (first | exact om_eafa9039069c klp8_0.1 | omega))
                          have ez : y4.toInt.toNat = Int32.toNatClampNeg y4 := by (first | exact om_14d446f7993c klp8_0.1 kz104 | omega)
                          have kz105 := i_clamp (x := y5) rfl (by (first | exact om_eafa9039069c klp8_1.1 | omega))
                          have hd9 : isDg (V 1 y4.toInt.toNat) := by rw [ez]; exact Imp.go t40 (by (first | exact om_2ebe32d50835 rgz37.1 rgz37.2 f66 | omega))
                          have kz106 := i_clamp (x := y68) rfl (by (first | exact om_12cf676bc652 klp8_0.1 xlp69_0 | omega))
                          have ez2 : y68.toInt.toNat = Int32.toNatClampNeg y68 := by (first | exact om_4078e7023535 klp8_0.1 xlp69_0 kz106 | omega)
                          have hnd : ¬ isDg (V 1 y68.toInt.toNat) := by rw [ez2]; exact fun z => by have y := Imp.go t94 (by (first | exact om_b1799fcf2d63 rgz90.1 f96 | omega)); have z1 := z.1; have z2 := z.2; omega
                          have hl0 : y4.toInt.toNat < y68.toInt.toNat := Nat.lt_of_le_of_ne (by omega) (fun h0 => hnd (by rw [← h0]; exact hd9))
                          have hrun : RUN isDg (V 1) (V 0 2).toInt.toNat y4.toInt.toNat y68.toInt.toNat := ⟨hl0, by first | omega | ((try (have i_t94 := Imp.go t94 (f96))); (try (have i_t40 := Imp.go t40 (imp_a (rgz37.1) (rgz37.2) (f66)))); (try (have i_t34 := Imp.go t34 (f36))); omega) | ((try (have i_t94 := Imp.go t94 (by omega))); (try (have i_t93 := Imp.go t93 (by omega))); (try (have i_t41 := Imp.go t41 (by omega))); (try (have i_t40 := Imp.go t40 (by omega))); first | omega | ((try (have i_t34 := Imp.go t34 (by omega))); (try (have i_t33 := Imp.go t33 (by omega))); (try (have i_t33 := Imp.go t33 (by omega))); (try (have i_t34 := Imp.go t34 (by omega))); first | omega | ((try (have i_t40 := Imp.go t40 (by omega))); (try (have i_t41 := Imp.go t41 (by omega))); (try (have i_t93 := Imp.go t93 (by omega))); (try (have i_t94 := Imp.go t94 (by omega))); omega))), fun k a b => xlp69_2 k (by omega) (by omega), Or.inr hnd⟩
                          exact ihlp8 y68 z102 V100 L101 H locs ls (by first | exact om_6a0f2de44dff r1.2 klp8_0.1 f89 kz104 ez kz106 ez2 hl0 | first | omega | ((try (have i_t94 := Imp.go t94 (f96))); (try (have i_t40 := Imp.go t40 (imp_a (rgz37.1) (rgz37.2) (f66)))); (try (have i_t34 := Imp.go t34 (f36))); omega) | ((try (have i_t94 := Imp.go t94 (by omega))); (try (have i_t93 := Imp.go t93 (by omega))); (try (have i_t41 := Imp.go t41 (by omega))); (try (have i_t40 := Imp.go t40 (by omega))); first | omega | ((try (have i_t34 := Imp.go t34 (by omega))); (try (have i_t33 := Imp.go t33 (by omega))); (try (have i_t33 := Imp.go t33 (by omega))); (try (have i_t34 := Imp.go t34 (by omega))); first | omega | ((try (have i_t40 := Imp.go t40 (by omega))); (try (have i_t41 := Imp.go t41 (by omega))); (try (have i_t93 := Imp.go t93 (by omega))); (try (have i_t94 := Imp.go t94 (by omega))); omega)))) (by first | exact om_24f218c02418 r1.2 klp8_1.1 xlp8_0 f89 hz102 kz104 ez kz106 ez2 hl0 | first | omega | ((try (have i_t94 := Imp.go t94 (f96))); (try (have i_t40 := Imp.go t40 (imp_a (rgz37.1) (rgz37.2) (f66)))); (try (have i_t34 := Imp.go t34 (f36))); omega) | ((try (have i_t94 := Imp.go t94 (by omega))); (try (have i_t93 := Imp.go t93 (by omega))); (try (have i_t41 := Imp.go t41 (by omega))); (try (have i_t40 := Imp.go t40 (by omega))); first | omega | ((try (have i_t34 := Imp.go t34 (by omega))); (try (have i_t33 := Imp.go t33 (by omega))); (try (have i_t33 := Imp.go t33 (by omega))); (try (have i_t34 := Imp.go t34 (by omega))); first | omega | ((try (have i_t40 := Imp.go t40 (by omega))); (try (have i_t41 := Imp.go t41 (by omega))); (try (have i_t93 := Imp.go t93 (by omega))); (try (have i_t94 := Imp.go t94 (by omega))); omega)))) (show z102.toInt ≤ y68.toInt from by first | exact om_6c7f30948ec0 xlp8_0 hz102 kz104 ez kz106 ez2 hl0 | first | omega | ((try (have i_t94 := Imp.go t94 (f96))); (try (have i_t40 := Imp.go t40 (imp_a (rgz37.1) (rgz37.2) (f66)))); (try (have i_t34 := Imp.go t34 (f36))); omega) | ((try (have i_t94 := Imp.go t94 (by omega))); (try (have i_t93 := Imp.go t93 (by omega))); (try (have i_t41 := Imp.go t41 (by omega))); (try (have i_t40 := Imp.go t40 (by omega))); first | omega | ((try (have i_t34 := Imp.go t34 (by omega))); (try (have i_t33 := Imp.go t33 (by omega))); (try (have i_t33 := Imp.go t33 (by omega))); (try (have i_t34 := Imp.go t34 (by omega))); first | omega | ((try (have i_t40 := Imp.go t40 (by omega))); (try (have i_t41 := Imp.go t41 (by omega))); (try (have i_t93 := Imp.go t93 (by omega))); (try (have i_t94 := Imp.go t94 (by omega))); omega)))) (show y68.toInt ≤ (V100 0 3).toInt from by first | exact om_2c59d391d7ea f89 pq103 | first | omega | ((try (have i_t94 := Imp.go t94 (f96))); (try (have i_t40 := Imp.go t40 (imp_a (rgz37.1) (rgz37.2) (f66)))); (try (have i_t34 := Imp.go t34 (f36))); omega) | ((try (have i_t94 := Imp.go t94 (by omega))); (try (have i_t93 := Imp.go t93 (by omega))); (try (have i_t41 := Imp.go t41 (by omega))); (try (have i_t40 := Imp.go t40 (by omega))); first | omega | ((try (have i_t34 := Imp.go t34 (by omega))); (try (have i_t33 := Imp.go t33 (by omega))); (try (have i_t33 := Imp.go t33 (by omega))); (try (have i_t34 := Imp.go t34 (by omega))); first | omega | ((try (have i_t40 := Imp.go t40 (by omega))); (try (have i_t41 := Imp.go t41 (by omega))); (try (have i_t93 := Imp.go t93 (by omega))); (try (have i_t94 := Imp.go t94 (by omega))); omega)))) (RTq.tk (t := y5.toInt.toNat) (p := y4.toInt.toNat) (e := y68.toInt.toNat) xlp8_2 hV29 hV100 hL101 (by omega) (by first | omega | ((try (have i_t94 := Imp.go t94 (f96))); (try (have i_t40 := Imp.go t40 (imp_a (rgz37.1) (rgz37.2) (f66)))); (try (have i_t34 := Imp.go t34 (f36))); omega) | ((try (have i_t94 := Imp.go t94 (by omega))); (try (have i_t93 := Imp.go t93 (by omega))); (try (have i_t41 := Imp.go t41 (by omega))); (try (have i_t40 := Imp.go t40 (by omega))); first | omega | ((try (have i_t34 := Imp.go t34 (by omega))); (try (have i_t33 := Imp.go t33 (by omega))); (try (have i_t33 := Imp.go t33 (by omega))); (try (have i_t34 := Imp.go t34 (by omega))); first | omega | ((try (have i_t40 := Imp.go t40 (by omega))); (try (have i_t41 := Imp.go t41 (by omega))); (try (have i_t93 := Imp.go t93 (by omega))); (try (have i_t94 := Imp.go t94 (by omega))); omega)))) rfl (by omega) (by rw [ez]; unfold isBl; omega) (Or.inl ⟨hd9, hrun⟩) ⟨fun _ => ⟨fun h => absurd h (by first | omega | ((try (have i_t94 := Imp.go t94 (f96))); (try (have i_t40 := Imp.go t40 (imp_a (rgz37.1) (rgz37.2) (f66)))); (try (have i_t34 := Imp.go t34 (f36))); omega) | ((try (have i_t94 := Imp.go t94 (by omega))); (try (have i_t93 := Imp.go t93 (by omega))); (try (have i_t41 := Imp.go t41 (by omega))); (try (have i_t40 := Imp.go t40 (by omega))); first | omega | ((try (have i_t34 := Imp.go t34 (by omega))); (try (have i_t33 := Imp.go t33 (by omega))); (try (have i_t33 := Imp.go t33 (by omega))); (try (have i_t34 := Imp.go t34 (by omega))); first | omega | ((try (have i_t40 := Imp.go t40 (by omega))); (try (have i_t41 := Imp.go t41 (by omega))); (try (have i_t93 := Imp.go t93 (by omega))); (try (have i_t94 := Imp.go t94 (by omega))); omega)))), fun h => ⟨by decide, by have z9 := xlp69_3 (by first | omega | ((try (have i_t94 := Imp.go t94 (f96))); (try (have i_t40 := Imp.go t40 (imp_a (rgz37.1) (rgz37.2) (f66)))); (try (have i_t34 := Imp.go t34 (f36))); omega) | ((try (have i_t94 := Imp.go t94 (by omega))); (try (have i_t93 := Imp.go t93 (by omega))); (try (have i_t41 := Imp.go t41 (by omega))); (try (have i_t40 := Imp.go t40 (by omega))); first | omega | ((try (have i_t34 := Imp.go t34 (by omega))); (try (have i_t33 := Imp.go t33 (by omega))); (try (have i_t33 := Imp.go t33 (by omega))); (try (have i_t34 := Imp.go t34 (by omega))); first | omega | ((try (have i_t40 := Imp.go t40 (by omega))); (try (have i_t41 := Imp.go t41 (by omega))); (try (have i_t93 := Imp.go t93 (by omega))); (try (have i_t94 := Imp.go t94 (by omega))); omega)))); rw [show (y68.toInt - y4.toInt).toNat = y68.toInt.toNat - y4.toInt.toNat from by omega] at z9; exact z9⟩⟩, fun q => absurd q (fun q => dg_lt hd9 q), fun q => absurd hd9 q⟩) (by first | omega | ((try (have i_t94 := Imp.go t94 (f96))); (try (have i_t40 := Imp.go t40 (imp_a (rgz37.1) (rgz37.2) (f66)))); (try (have i_t34 := Imp.go t34 (f36))); omega) | ((try (have i_t94 := Imp.go t94 (by omega))); (try (have i_t93 := Imp.go t93 (by omega))); (try (have i_t41 := Imp.go t41 (by omega))); (try (have i_t40 := Imp.go t40 (by omega))); first | omega | ((try (have i_t34 := Imp.go t34 (by omega))); (try (have i_t33 := Imp.go t33 (by omega))); (try (have i_t33 := Imp.go t33 (by omega))); (try (have i_t34 := Imp.go t34 (by omega))); first | omega | ((try (have i_t40 := Imp.go t40 (by omega))); (try (have i_t41 := Imp.go t41 (by omega))); (try (have i_t93 := Imp.go t93 (by omega))); (try (have i_t94 := Imp.go t94 (by omega))); omega)))) alL101 (agr.up (agr.up (agr.tr agr.rf ajV6 (by decide) (by decide)) hV29 rfl) hV100 rfl) hMV100 hP hD hS (lv_sub hl [4, 0, 5] rfl)
                        · skip
                          have f107 : 9 < z97.toInt := b_nle rfl (by decide) c98
                          refine lv_iconst (v := 4) hx hb dX12_cutAll_245 (by decide) ?_
                          refine lv_goto (tgt := 250) hx hb dX12_cutAll_246 (by decide) ?_
                          refine va_iast (D := D) (i := y5) (x := 4) hx hb hK hP hD hS 2 1 rfl rfl (i_in (a := y5.toInt) rfl (by first | exact om_d94ef047d059 r1.2 klp8_1.1 xlp8_0 f89 hz97 f107 | first | omega | ((try (have i_t94 := Imp.go t94 (f96))); (try (have i_t40 := Imp.go t40 (imp_a (rgz37.1) (rgz37.2) (f66)))); (try (have i_t34 := Imp.go t34 (f36))); omega) | ((try (have i_t94 := Imp.go t94 (by omega))); (try (have i_t93 := Imp.go t93 (by omega))); (try (have i_t41 := Imp.go t41 (by omega))); (try (have i_t40 := Imp.go t40 (by omega))); first | omega | ((try (have i_t34 := Imp.go t34 (by omega))); (try (have i_t33 := Imp.go t33 (by omega))); (try (have i_t33 := Imp.go t33 (by omega))); (try (have i_t34 := Imp.go t34 (by omega))); first | omega | ((try (have i_t40 := Imp.go t40 (by omega))); (try (have i_t41 := Imp.go t41 (by omega))); (try (have i_t93 := Imp.go t93 (by omega))); (try (have i_t94 := Imp.go t94 (by omega))); omega))))) dX12_cutAll_250 (fun H locs hP hD hS => ?_)
                          obtain ⟨V108, hV108⟩ : ∃ z, z = up2 V29 4 (Int32.toNatClampNeg y5) 4 := ⟨_, rfl⟩
                          have hP : va_P D vwCl (mw ad kk ks.1 V108 L7) H := by rw [hV108]; exact hP
                          have hD : va_D A (mw ad kk ks.1 V108 L7) := by rw [hV108]; exact hD
                          have hMV108 : rgd bM V108 := hMV29.put hV108 (i_full _)
                          have agV108 : agr [(0, 2), (0, 3), (0, 7), (0, 8)] [4, 5, 6] V V108 := agV29.up hV108 rfl
                          refine lv_goto (tgt := 279) hx hb dX12_cutAll_251 (by decide) ?_
                          refine lv_aload_n hx hb dX12_cutAll_279 rfl (lv_at hl 5 rfl) ?_
                          refine va_get (D := D) (ci := 12) (v := .ref (ad 6)) (C := RX12) (T := TX12) (N := 100) hx hb hg inX12 hown hK hP 0 rfl rfl 6 (by decide) (hg _ w1712) (fun _ h9 => h9) rfl dX12_cutAll_280 ?_
                          refine lv_iload_n hx hb dX12_cutAll_283 rfl (lv_at hl 4 rfl) ?_
                          refine lv_lload hx hb dX12_cutAll_284 (lv_at hl 0 rfl) ?_
                          refine va_last (D := D) (i := y5) (x := y67) hx hb hK hP hD hS 4 3 rfl rfl (i_in (a := y5.toInt) rfl (by first | exact om_d94ef047d059 r1.2 klp8_1.1 xlp8_0 f89 hz97 f107 | first | omega | ((try (have i_t94 := Imp.go t94 (f96))); (try (have i_t40 := Imp.go t40 (imp_a (rgz37.1) (rgz37.2) (f66)))); (try (have i_t34 := Imp.go t34 (f36))); omega) | ((try (have i_t94 := Imp.go t94 (by omega))); (try (have i_t93 := Imp.go t93 (by omega))); (try (have i_t41 := Imp.go t41 (by omega))); (try (have i_t40 := Imp.go t40 (by omega))); first | omega | ((try (have i_t34 := Imp.go t34 (by omega))); (try (have i_t33 := Imp.go t33 (by omega))); (try (have i_t33 := Imp.go t33 (by omega))); (try (have i_t34 := Imp.go t34 (by omega))); first | omega | ((try (have i_t40 := Imp.go t40 (by omega))); (try (have i_t41 := Imp.go t41 (by omega))); (try (have i_t93 := Imp.go t93 (by omega))); (try (have i_t94 := Imp.go t94 (by omega))); omega))))) dX12_cutAll_286 (fun H locs hP hD hS => ?_)
                          obtain ⟨L109, hL109⟩ : ∃ z, z = upL L7 6 (Int32.toNatClampNeg y5) y67 := ⟨_, rfl⟩
                          have hP : va_P D vwCl (mw ad kk ks.1 V108 L109) H := by rw [hL109]; exact hP
                          have hD : va_D A (mw ad kk ks.1 V108 L109) := by rw [hL109]; exact hD
                          have alL109 : agL [4, 5, 6] L L109 := agL.up alL7 hL109 rfl
                          obtain ⟨z110, ez110⟩ : ∃ y : Int32, y = y5 + 1 := ⟨_, rfl⟩
                          have hz110 : z110.toInt = y5.toInt + 1 := i_add ez110 rfl (by decide) (by (first | exact om_7cea0f6c0c4a r1.2 klp8_1.1 xlp8_0 f89 hz97 f107 | omega))
                          refine lv_iinc (v := z110) (lv' := [(1, .int z110), (5, .long y67), (4, .int y4), (3, .int (V 1 (Int32.toNatClampNeg y4))), (2, .int y68), (0, .ref (ad 0))]) hx hb dX12_cutAll_287 hl (k := 4) rfl (by rw [ez110]; rfl) (by decide) rfl (fun ls hl => ?_)
                          refine lv_goto (tgt := 17) hx hb dX12_cutAll_290 (by decide) ?_
                          have pq111 : (V108 0 3).toInt = ((V 0 2)).toInt := congrArg Int32.toInt ((up2_o hV108 (by decide)).trans ((up2_o hV29 (by decide)).trans ((ajV6 0 3 rfl).trans ((up2_k hV3 (by decide)).trans (up2_s hV2)))))
                          have kz112 := i_clamp (x := y4) rfl (by (first | exact om_eafa9039069c klp8_0.1 | omega))
                          have ez : y4.toInt.toNat = Int32.toNatClampNeg y4 := by (first | exact om_14d446f7993c klp8_0.1 kz112 | omega)
                          have kz113 := i_clamp (x := y5) rfl (by (first | exact om_eafa9039069c klp8_1.1 | omega))
                          have hd9 : isDg (V 1 y4.toInt.toNat) := by rw [ez]; exact Imp.go t40 (by (first | exact om_2ebe32d50835 rgz37.1 rgz37.2 f66 | omega))
                          have kz114 := i_clamp (x := y68) rfl (by (first | exact om_5e710608e66b klp8_0.1 hz97 f107 | omega))
                          have ez2 : y68.toInt.toNat = Int32.toNatClampNeg y68 := by (first | exact om_b920144498ec klp8_0.1 hz97 f107 kz114 | omega)
                          have hnd : ¬ isDg (V 1 y68.toInt.toNat) := by rw [ez2]; exact fun z => by have y := Imp.go t94 (by (first | exact om_b1799fcf2d63 rgz90.1 f96 | omega)); have z1 := z.1; have z2 := z.2; omega
                          have hl0 : y4.toInt.toNat < y68.toInt.toNat := Nat.lt_of_le_of_ne (by omega) (fun h0 => hnd (by rw [← h0]; exact hd9))
                          have hrun : RUN isDg (V 1) (V 0 2).toInt.toNat y4.toInt.toNat y68.toInt.toNat := ⟨hl0, by first | omega | ((try (have i_t94 := Imp.go t94 (f96))); (try (have i_t40 := Imp.go t40 (imp_a (rgz37.1) (rgz37.2) (f66)))); (try (have i_t34 := Imp.go t34 (f36))); omega) | ((try (have i_t94 := Imp.go t94 (by omega))); (try (have i_t93 := Imp.go t93 (by omega))); (try (have i_t41 := Imp.go t41 (by omega))); (try (have i_t40 := Imp.go t40 (by omega))); first | omega | ((try (have i_t34 := Imp.go t34 (by omega))); (try (have i_t33 := Imp.go t33 (by omega))); (try (have i_t33 := Imp.go t33 (by omega))); (try (have i_t34 := Imp.go t34 (by omega))); first | omega | ((try (have i_t40 := Imp.go t40 (by omega))); (try (have i_t41 := Imp.go t41 (by omega))); (try (have i_t93 := Imp.go t93 (by omega))); (try (have i_t94 := Imp.go t94 (by omega))); omega))), fun k a b => xlp69_2 k (by omega) (by omega), Or.inr hnd⟩
                          exact ihlp8 y68 z110 V108 L109 H locs ls (by first | exact om_2d776cd39ec8 r1.2 klp8_0.1 f89 hz97 f107 | first | omega | ((try (have i_t94 := Imp.go t94 (f96))); (try (have i_t40 := Imp.go t40 (imp_a (rgz37.1) (rgz37.2) (f66)))); (try (have i_t34 := Imp.go t34 (f36))); omega) | ((try (have i_t94 := Imp.go t94 (by omega))); (try (have i_t93 := Imp.go t93 (by omega))); (try (have i_t41 := Imp.go t41 (by omega))); (try (have i_t40 := Imp.go t40 (by omega))); first | omega | ((try (have i_t34 := Imp.go t34 (by omega))); (try (have i_t33 := Imp.go t33 (by omega))); (try (have i_t33 := Imp.go t33 (by omega))); (try (have i_t34 := Imp.go t34 (by omega))); first | omega | ((try (have i_t40 := Imp.go t40 (by omega))); (try (have i_t41 := Imp.go t41 (by omega))); (try (have i_t93 := Imp.go t93 (by omega))); (try (have i_t94 := Imp.go t94 (by omega))); omega)))) (by first | exact om_a62e83e85e57 r1.2 klp8_1.1 xlp8_0 f89 hz97 f107 hz110 | first | omega | ((try (have i_t94 := Imp.go t94 (f96))); (try (have i_t40 := Imp.go t40 (imp_a (rgz37.1) (rgz37.2) (f66)))); (try (have i_t34 := Imp.go t34 (f36))); omega) | ((try (have i_t94 := Imp.go t94 (by omega))); (try (have i_t93 := Imp.go t93 (by omega))); (try (have i_t41 := Imp.go t41 (by omega))); (try (have i_t40 := Imp.go t40 (by omega))); first | omega | ((try (have i_t34 := Imp.go t34 (by omega))); (try (have i_t33 := Imp.go t33 (by omega))); (try (have i_t33 := Imp.go t33 (by omega))); (try (have i_t34 := Imp.go t34 (by omega))); first | omega | ((try (have i_t40 := Imp.go t40 (by omega))); (try (have i_t41 := Imp.go t41 (by omega))); (try (have i_t93 := Imp.go t93 (by omega))); (try (have i_t94 := Imp.go t94 (by omega))); omega)))) (show z110.toInt ≤ y68.toInt from by first | exact om_e2cfe420e9a9 xlp8_0 hz97 f107 hz110 | first | omega | ((try (have i_t94 := Imp.go t94 (f96))); (try (have i_t40 := Imp.go t40 (imp_a (rgz37.1) (rgz37.2) (f66)))); (try (have i_t34 := Imp.go t34 (f36))); omega) | ((try (have i_t94 := Imp.go t94 (by omega))); (try (have i_t93 := Imp.go t93 (by omega))); (try (have i_t41 := Imp.go t41 (by omega))); (try (have i_t40 := Imp.go t40 (by omega))); first | omega | ((try (have i_t34 := Imp.go t34 (by omega))); (try (have i_t33 := Imp.go t33 (by omega))); (try (have i_t33 := Imp.go t33 (by omega))); (try (have i_t34 := Imp.go t34 (by omega))); first | omega | ((try (have i_t40 := Imp.go t40 (by omega))); (try (have i_t41 := Imp.go t41 (by omega))); (try (have i_t93 := Imp.go t93 (by omega))); (try (have i_t94 := Imp.go t94 (by omega))); omega)))) (show y68.toInt ≤ (V108 0 3).toInt from by first | exact om_2c59d391d7ea f89 pq111 | first | omega | ((try (have i_t94 := Imp.go t94 (f96))); (try (have i_t40 := Imp.go t40 (imp_a (rgz37.1) (rgz37.2) (f66)))); (try (have i_t34 := Imp.go t34 (f36))); omega) | ((try (have i_t94 := Imp.go t94 (by omega))); (try (have i_t93 := Imp.go t93 (by omega))); (try (have i_t41 := Imp.go t41 (by omega))); (try (have i_t40 := Imp.go t40 (by omega))); first | omega | ((try (have i_t34 := Imp.go t34 (by omega))); (try (have i_t33 := Imp.go t33 (by omega))); (try (have i_t33 := Imp.go t33 (by omega))); (try (have i_t34 := Imp.go t34 (by omega))); first | omega | ((try (have i_t40 := Imp.go t40 (by omega))); (try (have i_t41 := Imp.go t41 (by omega))); (try (have i_t93 := Imp.go t93 (by omega))); (try (have i_t94 := Imp.go t94 (by omega))); omega)))) (RTq.tk (t := y5.toInt.toNat) (p := y4.toInt.toNat) (e := y68.toInt.toNat) xlp8_2 hV29 hV108 hL109 (by omega) (by first | omega | ((try (have i_t94 := Imp.go t94 (f96))); (try (have i_t40 := Imp.go t40 (imp_a (rgz37.1) (rgz37.2) (f66)))); (try (have i_t34 := Imp.go t34 (f36))); omega) | ((try (have i_t94 := Imp.go t94 (by omega))); (try (have i_t93 := Imp.go t93 (by omega))); (try (have i_t41 := Imp.go t41 (by omega))); (try (have i_t40 := Imp.go t40 (by omega))); first | omega | ((try (have i_t34 := Imp.go t34 (by omega))); (try (have i_t33 := Imp.go t33 (by omega))); (try (have i_t33 := Imp.go t33 (by omega))); (try (have i_t34 := Imp.go t34 (by omega))); first | omega | ((try (have i_t40 := Imp.go t40 (by omega))); (try (have i_t41 := Imp.go t41 (by omega))); (try (have i_t93 := Imp.go t93 (by omega))); (try (have i_t94 := Imp.go t94 (by omega))); omega)))) rfl (by omega) (by rw [ez]; unfold isBl; omega) (Or.inl ⟨hd9, hrun⟩) ⟨fun _ => ⟨fun _ => by decide, fun h => absurd h (by first | omega | ((try (have i_t94 := Imp.go t94 (f96))); (try (have i_t40 := Imp.go t40 (imp_a (rgz37.1) (rgz37.2) (f66)))); (try (have i_t34 := Imp.go t34 (f36))); omega) | ((try (have i_t94 := Imp.go t94 (by omega))); (try (have i_t93 := Imp.go t93 (by omega))); (try (have i_t41 := Imp.go t41 (by omega))); (try (have i_t40 := Imp.go t40 (by omega))); first | omega | ((try (have i_t34 := Imp.go t34 (by omega))); (try (have i_t33 := Imp.go t33 (by omega))); (try (have i_t33 := Imp.go t33 (by omega))); (try (have i_t34 := Imp.go t34 (by omega))); first | omega | ((try (have i_t40 := Imp.go t40 (by omega))); (try (have i_t41 := Imp.go t41 (by omega))); (try (have i_t93 := Imp.go t93 (by omega))); (try (have i_t94 := Imp.go t94 (by omega))); omega))))⟩, fun q => absurd q (fun q => dg_lt hd9 q), fun q => absurd hd9 q⟩) (by first | omega | ((try (have i_t94 := Imp.go t94 (f96))); (try (have i_t40 := Imp.go t40 (imp_a (rgz37.1) (rgz37.2) (f66)))); (try (have i_t34 := Imp.go t34 (f36))); omega) | ((try (have i_t94 := Imp.go t94 (by omega))); (try (have i_t93 := Imp.go t93 (by omega))); (try (have i_t41 := Imp.go t41 (by omega))); (try (have i_t40 := Imp.go t40 (by omega))); first | omega | ((try (have i_t34 := Imp.go t34 (by omega))); (try (have i_t33 := Imp.go t33 (by omega))); (try (have i_t33 := Imp.go t33 (by omega))); (try (have i_t34 := Imp.go t34 (by omega))); first | omega | ((try (have i_t40 := Imp.go t40 (by omega))); (try (have i_t41 := Imp.go t41 (by omega))); (try (have i_t93 := Imp.go t93 (by omega))); (try (have i_t94 := Imp.go t94 (by omega))); omega)))) alL109 (agr.up (agr.up (agr.tr agr.rf ajV6 (by decide) (by decide)) hV29 rfl) hV108 rfl) hMV108 hP hD hS (lv_sub hl [4, 0, 5] rfl)
                      · skip
                        have f115 : z90.toInt ≠ 0 := b_neq rfl (by decide) c95
                        refine lv_iload_n hx hb dX12_cutAll_191 rfl (lv_at hl 3 rfl) ?_
                        refine lv_iload hx hb dX12_cutAll_192 (lv_at hl 1 rfl) ?_
                        refine lv_isub hx hb dX12_cutAll_194 ?_
                        refine lv_topi (fun z116 ez116 => ?_)
                        have hz116 : z116.toInt = y68.toInt - y4.toInt := i_sub ez116 rfl rfl (by (first | exact om_3e0184275307 r1.2 klp8_0.1 xlp69_0 f89 | omega))
                        refine lv_bipush (v := 9) hx hb dX12_cutAll_195 (by decide) ?_
                        refine lv_icmp_ge (tgt := 221) hx hb dX12_cutAll_197 (by decide) (fun c117 => ?_) (fun c117 => ?_)
                        · skip
                          have f118 : 9 ≤ z116.toInt := b_le (by decide) rfl c117
                          refine lv_lload hx hb dX12_cutAll_221 (lv_at hl 0 rfl) ?_
                          refine lv_lstore (lv' := [(5, .long y67), (4, .int y4), (3, .int (V 1 (Int32.toNatClampNeg y4))), (2, .int y68), (1, .int y5), (0, .ref (ad 0))]) hx hb dX12_cutAll_223 hl (by decide) rfl (fun ls hl => ?_)
                          obtain ⟨z119, ez119⟩ : ∃ y : Int32, y = y68 + 1 := ⟨_, rfl⟩
                          have hz119 : z119.toInt = y68.toInt + 1 := i_add ez119 rfl (by decide) (by (first | exact om_80d5176ec034 r1.2 klp8_0.1 f89 hz116 f118 | omega))
                          refine lv_iinc (v := z119) (lv' := [(2, .int z119), (5, .long y67), (4, .int y4), (3, .int (V 1 (Int32.toNatClampNeg y4))), (1, .int y5), (0, .ref (ad 0))]) hx hb dX12_cutAll_225 hl (k := 3) rfl (by rw [ez119]; rfl) (by decide) rfl (fun ls hl => ?_)
                          refine lv_goto (tgt := 171) hx hb dX12_cutAll_228 (by decide) ?_
                          have kz120 := i_clamp (x := y68) rfl (by (first | exact om_82cde3e164be klp8_0.1 hz116 f118 | omega))
                          have hld : isDg (V 1 (Int32.toNatClampNeg y68)) := Imp.go t93 (by (first | exact om_2ebe32d50835 rgz90.1 rgz90.2 f115 | omega))
                          exact ihlp69 y67 z119 H locs ls (by first | exact om_b233172a189d r1.2 klp8_0.1 f89 hz116 f118 hz119 | first | omega | ((try (have i_t93 := Imp.go t93 (imp_a (rgz90.1) (rgz90.2) (f115)))); (try (have i_t40 := Imp.go t40 (imp_a (rgz37.1) (rgz37.2) (f66)))); (try (have i_t34 := Imp.go t34 (f36))); omega) | ((try (have i_t94 := Imp.go t94 (by omega))); (try (have i_t93 := Imp.go t93 (by omega))); (try (have i_t41 := Imp.go t41 (by omega))); (try (have i_t40 := Imp.go t40 (by omega))); first | omega | ((try (have i_t34 := Imp.go t34 (by omega))); (try (have i_t33 := Imp.go t33 (by omega))); (try (have i_t33 := Imp.go t33 (by omega))); (try (have i_t34 := Imp.go t34 (by omega))); first | omega | ((try (have i_t40 := Imp.go t40 (by omega))); (try (have i_t41 := Imp.go t41 (by omega))); (try (have i_t93 := Imp.go t93 (by omega))); (try (have i_t94 := Imp.go t94 (by omega))); omega)))) (show y4.toInt ≤ z119.toInt from by first | exact om_5fbdce89d6c0 hz116 f118 hz119 | first | omega | ((try (have i_t93 := Imp.go t93 (imp_a (rgz90.1) (rgz90.2) (f115)))); (try (have i_t40 := Imp.go t40 (imp_a (rgz37.1) (rgz37.2) (f66)))); (try (have i_t34 := Imp.go t34 (f36))); omega) | ((try (have i_t94 := Imp.go t94 (by omega))); (try (have i_t93 := Imp.go t93 (by omega))); (try (have i_t41 := Imp.go t41 (by omega))); (try (have i_t40 := Imp.go t40 (by omega))); first | omega | ((try (have i_t34 := Imp.go t34 (by omega))); (try (have i_t33 := Imp.go t33 (by omega))); (try (have i_t33 := Imp.go t33 (by omega))); (try (have i_t34 := Imp.go t34 (by omega))); first | omega | ((try (have i_t40 := Imp.go t40 (by omega))); (try (have i_t41 := Imp.go t41 (by omega))); (try (have i_t93 := Imp.go t93 (by omega))); (try (have i_t94 := Imp.go t94 (by omega))); omega)))) (show z119.toInt ≤ (V29 0 3).toInt from by first | exact om_79347f38c257 pq70 f89 hz119 | first | omega | ((try (have i_t93 := Imp.go t93 (imp_a (rgz90.1) (rgz90.2) (f115)))); (try (have i_t40 := Imp.go t40 (imp_a (rgz37.1) (rgz37.2) (f66)))); (try (have i_t34 := Imp.go t34 (f36))); omega) | ((try (have i_t94 := Imp.go t94 (by omega))); (try (have i_t93 := Imp.go t93 (by omega))); (try (have i_t41 := Imp.go t41 (by omega))); (try (have i_t40 := Imp.go t40 (by omega))); first | omega | ((try (have i_t34 := Imp.go t34 (by omega))); (try (have i_t33 := Imp.go t33 (by omega))); (try (have i_t33 := Imp.go t33 (by omega))); (try (have i_t34 := Imp.go t34 (by omega))); first | omega | ((try (have i_t40 := Imp.go t40 (by omega))); (try (have i_t41 := Imp.go t41 (by omega))); (try (have i_t93 := Imp.go t93 (by omega))); (try (have i_t94 := Imp.go t94 (by omega))); omega)))) (fun k a b => by by_cases c : (k : Int) < y68.toInt; exact xlp69_2 k a c; have ek : k = Int32.toNatClampNeg y68 := (by first | omega | ((try (have i_t93 := Imp.go t93 (imp_a (rgz90.1) (rgz90.2) (f115)))); (try (have i_t40 := Imp.go t40 (imp_a (rgz37.1) (rgz37.2) (f66)))); (try (have i_t34 := Imp.go t34 (f36))); omega) | ((try (have i_t94 := Imp.go t94 (by omega))); (try (have i_t93 := Imp.go t93 (by omega))); (try (have i_t41 := Imp.go t41 (by omega))); (try (have i_t40 := Imp.go t40 (by omega))); first | omega | ((try (have i_t34 := Imp.go t34 (by omega))); (try (have i_t33 := Imp.go t33 (by omega))); (try (have i_t33 := Imp.go t33 (by omega))); (try (have i_t34 := Imp.go t34 (by omega))); first | omega | ((try (have i_t40 := Imp.go t40 (by omega))); (try (have i_t41 := Imp.go t41 (by omega))); (try (have i_t93 := Imp.go t93 (by omega))); (try (have i_t94 := Imp.go t94 (by omega))); omega)))); rw [ek]; exact hld) (fun h9 => absurd h9 (by first | omega | ((try (have i_t93 := Imp.go t93 (imp_a (rgz90.1) (rgz90.2) (f115)))); (try (have i_t40 := Imp.go t40 (imp_a (rgz37.1) (rgz37.2) (f66)))); (try (have i_t34 := Imp.go t34 (f36))); omega) | ((try (have i_t94 := Imp.go t94 (by omega))); (try (have i_t93 := Imp.go t93 (by omega))); (try (have i_t41 := Imp.go t41 (by omega))); (try (have i_t40 := Imp.go t40 (by omega))); first | omega | ((try (have i_t34 := Imp.go t34 (by omega))); (try (have i_t33 := Imp.go t33 (by omega))); (try (have i_t33 := Imp.go t33 (by omega))); (try (have i_t34 := Imp.go t34 (by omega))); first | omega | ((try (have i_t40 := Imp.go t40 (by omega))); (try (have i_t41 := Imp.go t41 (by omega))); (try (have i_t93 := Imp.go t93 (by omega))); (try (have i_t94 := Imp.go t94 (by omega))); omega))))) (by first | exact om_9e7d2b874257 hn hz119 | first | omega | ((try (have i_t93 := Imp.go t93 (imp_a (rgz90.1) (rgz90.2) (f115)))); (try (have i_t40 := Imp.go t40 (imp_a (rgz37.1) (rgz37.2) (f66)))); (try (have i_t34 := Imp.go t34 (f36))); omega) | ((try (have i_t94 := Imp.go t94 (by omega))); (try (have i_t93 := Imp.go t93 (by omega))); (try (have i_t41 := Imp.go t41 (by omega))); (try (have i_t40 := Imp.go t40 (by omega))); first | omega | ((try (have i_t34 := Imp.go t34 (by omega))); (try (have i_t33 := Imp.go t33 (by omega))); (try (have i_t33 := Imp.go t33 (by omega))); (try (have i_t34 := Imp.go t34 (by omega))); first | omega | ((try (have i_t40 := Imp.go t40 (by omega))); (try (have i_t41 := Imp.go t41 (by omega))); (try (have i_t93 := Imp.go t93 (by omega))); (try (have i_t94 := Imp.go t94 (by omega))); omega)))) hP hD hS (lv_sub hl [1, 2, 3, 0, 4, 5] rfl)
                        · skip
                          have f121 : z116.toInt < 9 := b_nle (by decide) rfl c117
                          refine lv_ldc2 (v := 10) hx hb hown (hg _ w2018) dX12_cutAll_200 ?_
                          refine lv_lload hx hb dX12_cutAll_203 (lv_at hl 0 rfl) ?_
                          refine lv_lmul hx hb dX12_cutAll_205 ?_
                          refine lv_topl (fun w122 ew122 => ?_)
                          refine lv_aload_n hx hb dX12_cutAll_206 rfl (lv_at hl 5 rfl) ?_
                          refine va_get (D := D) (ci := 12) (v := .ref (ad 1)) (C := RX12) (T := TX12) (N := 100) hx hb hg inX12 hown hK hP 0 rfl rfl 1 (by decide) (hg _ w1707) (fun _ h9 => h9) rfl dX12_cutAll_207 ?_
                          refine lv_iload_n hx hb dX12_cutAll_210 rfl (lv_at hl 3 rfl) ?_
                          refine va_iald (D := D) (i := y68) hx hb hK hP 1 0 rfl rfl (i_in (a := y68.toInt) rfl (by first | exact om_f319e852899e r1.2 klp8_0.1 xlp69_0 f89 | first | omega | ((try (have i_t93 := Imp.go t93 (imp_a (rgz90.1) (rgz90.2) (f115)))); (try (have i_t40 := Imp.go t40 (imp_a (rgz37.1) (rgz37.2) (f66)))); (try (have i_t34 := Imp.go t34 (f36))); omega) | ((try (have i_t94 := Imp.go t94 (by omega))); (try (have i_t93 := Imp.go t93 (by omega))); (try (have i_t41 := Imp.go t41 (by omega))); (try (have i_t40 := Imp.go t40 (by omega))); first | omega | ((try (have i_t34 := Imp.go t34 (by omega))); (try (have i_t33 := Imp.go t33 (by omega))); (try (have i_t33 := Imp.go t33 (by omega))); (try (have i_t34 := Imp.go t34 (by omega))); first | omega | ((try (have i_t40 := Imp.go t40 (by omega))); (try (have i_t41 := Imp.go t41 (by omega))); (try (have i_t93 := Imp.go t93 (by omega))); (try (have i_t94 := Imp.go t94 (by omega))); omega))))) dX12_cutAll_211 ?_
                          refine g_top (v := (V 1 (Int32.toNatClampNeg y68))) ((up2_o hV29 (by decide)).trans ((ajV6 1 (Int32.toNatClampNeg y68) rfl).trans ((up2_o hV3 (by decide)).trans (up2_o hV2 (by decide))))) ?_
                          refine lv_i2l hx hb dX12_cutAll_212 rfl ?_
                          refine lv_topl (fun w123 ew123 => ?_)
                          refine lv_ladd hx hb dX12_cutAll_213 ?_
                          refine lv_topl (fun w124 ew124 => ?_)
                          refine lv_ldc2 (v := 48) hx hb hown (hg _ w2019) dX12_cutAll_214 ?_
                          refine lv_lsub hx hb dX12_cutAll_217 ?_
                          refine lv_topl (fun w125 ew125 => ?_)
                          refine lv_goto (tgt := 223) hx hb dX12_cutAll_218 (by decide) ?_
                          refine lv_lstore (lv' := [(5, .long w125), (4, .int y4), (3, .int (V 1 (Int32.toNatClampNeg y4))), (2, .int y68), (1, .int y5), (0, .ref (ad 0))]) hx hb dX12_cutAll_223 hl (by decide) rfl (fun ls hl => ?_)
                          obtain ⟨z126, ez126⟩ : ∃ y : Int32, y = y68 + 1 := ⟨_, rfl⟩
                          have hz126 : z126.toInt = y68.toInt + 1 := i_add ez126 rfl (by decide) (by (first | exact om_cf147208ce66 r1.2 klp8_0.1 xlp69_0 f89 | omega))
                          refine lv_iinc (v := z126) (lv' := [(2, .int z126), (5, .long w125), (4, .int y4), (3, .int (V 1 (Int32.toNatClampNeg y4))), (1, .int y5), (0, .ref (ad 0))]) hx hb dX12_cutAll_225 hl (k := 3) rfl (by rw [ez126]; rfl) (by decide) rfl (fun ls hl => ?_)
                          refine lv_goto (tgt := 171) hx hb dX12_cutAll_228 (by decide) ?_
                          have kz127 := i_clamp (x := y68) rfl (by (first | exact om_12cf676bc652 klp8_0.1 xlp69_0 | omega))
                          have hld : isDg (V 1 (Int32.toNatClampNeg y68)) := Imp.go t93 (by (first | exact om_2ebe32d50835 rgz90.1 rgz90.2 f115 | omega))
                          exact ihlp69 w125 z126 H locs ls (by first | exact om_324fc6cf93cf r1.2 klp8_0.1 xlp69_0 f89 hz126 | first | omega | ((try (have i_t93 := Imp.go t93 (imp_a (rgz90.1) (rgz90.2) (f115)))); (try (have i_t40 := Imp.go t40 (imp_a (rgz37.1) (rgz37.2) (f66)))); (try (have i_t34 := Imp.go t34 (f36))); omega) | ((try (have i_t94 := Imp.go t94 (by omega))); (try (have i_t93 := Imp.go t93 (by omega))); (try (have i_t41 := Imp.go t41 (by omega))); (try (have i_t40 := Imp.go t40 (by omega))); first | omega | ((try (have i_t34 := Imp.go t34 (by omega))); (try (have i_t33 := Imp.go t33 (by omega))); (try (have i_t33 := Imp.go t33 (by omega))); (try (have i_t34 := Imp.go t34 (by omega))); first | omega | ((try (have i_t40 := Imp.go t40 (by omega))); (try (have i_t41 := Imp.go t41 (by omega))); (try (have i_t93 := Imp.go t93 (by omega))); (try (have i_t94 := Imp.go t94 (by omega))); omega)))) (show y4.toInt ≤ z126.toInt from by first | exact om_f75a30b4c815 xlp69_0 hz126 | first | omega | ((try (have i_t93 := Imp.go t93 (imp_a (rgz90.1) (rgz90.2) (f115)))); (try (have i_t40 := Imp.go t40 (imp_a (rgz37.1) (rgz37.2) (f66)))); (try (have i_t34 := Imp.go t34 (f36))); omega) | ((try (have i_t94 := Imp.go t94 (by omega))); (try (have i_t93 := Imp.go t93 (by omega))); (try (have i_t41 := Imp.go t41 (by omega))); (try (have i_t40 := Imp.go t40 (by omega))); first | omega | ((try (have i_t34 := Imp.go t34 (by omega))); (try (have i_t33 := Imp.go t33 (by omega))); (try (have i_t33 := Imp.go t33 (by omega))); (try (have i_t34 := Imp.go t34 (by omega))); first | omega | ((try (have i_t40 := Imp.go t40 (by omega))); (try (have i_t41 := Imp.go t41 (by omega))); (try (have i_t93 := Imp.go t93 (by omega))); (try (have i_t94 := Imp.go t94 (by omega))); omega)))) (show z126.toInt ≤ (V29 0 3).toInt from by first | exact om_79347f38c257 pq70 f89 hz126 | first | omega | ((try (have i_t93 := Imp.go t93 (imp_a (rgz90.1) (rgz90.2) (f115)))); (try (have i_t40 := Imp.go t40 (imp_a (rgz37.1) (rgz37.2) (f66)))); (try (have i_t34 := Imp.go t34 (f36))); omega) | ((try (have i_t94 := Imp.go t94 (by omega))); (try (have i_t93 := Imp.go t93 (by omega))); (try (have i_t41 := Imp.go t41 (by omega))); (try (have i_t40 := Imp.go t40 (by omega))); first | omega | ((try (have i_t34 := Imp.go t34 (by omega))); (try (have i_t33 := Imp.go t33 (by omega))); (try (have i_t33 := Imp.go t33 (by omega))); (try (have i_t34 := Imp.go t34 (by omega))); first | omega | ((try (have i_t40 := Imp.go t40 (by omega))); (try (have i_t41 := Imp.go t41 (by omega))); (try (have i_t93 := Imp.go t93 (by omega))); (try (have i_t94 := Imp.go t94 (by omega))); omega)))) (fun k a b => by by_cases c : (k : Int) < y68.toInt; exact xlp69_2 k a c; have ek : k = Int32.toNatClampNeg y68 := (by first | omega | ((try (have i_t93 := Imp.go t93 (imp_a (rgz90.1) (rgz90.2) (f115)))); (try (have i_t40 := Imp.go t40 (imp_a (rgz37.1) (rgz37.2) (f66)))); (try (have i_t34 := Imp.go t34 (f36))); omega) | ((try (have i_t94 := Imp.go t94 (by omega))); (try (have i_t93 := Imp.go t93 (by omega))); (try (have i_t41 := Imp.go t41 (by omega))); (try (have i_t40 := Imp.go t40 (by omega))); first | omega | ((try (have i_t34 := Imp.go t34 (by omega))); (try (have i_t33 := Imp.go t33 (by omega))); (try (have i_t33 := Imp.go t33 (by omega))); (try (have i_t34 := Imp.go t34 (by omega))); first | omega | ((try (have i_t40 := Imp.go t40 (by omega))); (try (have i_t41 := Imp.go t41 (by omega))); (try (have i_t93 := Imp.go t93 (by omega))); (try (have i_t94 := Imp.go t94 (by omega))); omega)))); rw [ek]; exact hld) (fun h9 => by rw [show (z126.toInt - y4.toInt).toNat = (y68.toInt - y4.toInt).toNat + 1 from by first | omega | ((try (have i_t93 := Imp.go t93 (imp_a (rgz90.1) (rgz90.2) (f115)))); (try (have i_t40 := Imp.go t40 (imp_a (rgz37.1) (rgz37.2) (f66)))); (try (have i_t34 := Imp.go t34 (f36))); omega) | ((try (have i_t94 := Imp.go t94 (by omega))); (try (have i_t93 := Imp.go t93 (by omega))); (try (have i_t41 := Imp.go t41 (by omega))); (try (have i_t40 := Imp.go t40 (by omega))); first | omega | ((try (have i_t34 := Imp.go t34 (by omega))); (try (have i_t33 := Imp.go t33 (by omega))); (try (have i_t33 := Imp.go t33 (by omega))); (try (have i_t34 := Imp.go t34 (by omega))); first | omega | ((try (have i_t40 := Imp.go t40 (by omega))); (try (have i_t41 := Imp.go t41 (by omega))); (try (have i_t93 := Imp.go t93 (by omega))); (try (have i_t94 := Imp.go t94 (by omega))); omega))), nv_s, ← xlp69_3 (by first | omega | ((try (have i_t93 := Imp.go t93 (imp_a (rgz90.1) (rgz90.2) (f115)))); (try (have i_t40 := Imp.go t40 (imp_a (rgz37.1) (rgz37.2) (f66)))); (try (have i_t34 := Imp.go t34 (f36))); omega) | ((try (have i_t94 := Imp.go t94 (by omega))); (try (have i_t93 := Imp.go t93 (by omega))); (try (have i_t41 := Imp.go t41 (by omega))); (try (have i_t40 := Imp.go t40 (by omega))); first | omega | ((try (have i_t34 := Imp.go t34 (by omega))); (try (have i_t33 := Imp.go t33 (by omega))); (try (have i_t33 := Imp.go t33 (by omega))); (try (have i_t34 := Imp.go t34 (by omega))); first | omega | ((try (have i_t40 := Imp.go t40 (by omega))); (try (have i_t41 := Imp.go t41 (by omega))); (try (have i_t93 := Imp.go t93 (by omega))); (try (have i_t94 := Imp.go t94 (by omega))); omega)))), show y4.toInt.toNat + (y68.toInt - y4.toInt).toNat = Int32.toNatClampNeg y68 from by first | omega | ((try (have i_t93 := Imp.go t93 (imp_a (rgz90.1) (rgz90.2) (f115)))); (try (have i_t40 := Imp.go t40 (imp_a (rgz37.1) (rgz37.2) (f66)))); (try (have i_t34 := Imp.go t34 (f36))); omega) | ((try (have i_t94 := Imp.go t94 (by omega))); (try (have i_t93 := Imp.go t93 (by omega))); (try (have i_t41 := Imp.go t41 (by omega))); (try (have i_t40 := Imp.go t40 (by omega))); first | omega | ((try (have i_t34 := Imp.go t34 (by omega))); (try (have i_t33 := Imp.go t33 (by omega))); (try (have i_t33 := Imp.go t33 (by omega))); (try (have i_t34 := Imp.go t34 (by omega))); first | omega | ((try (have i_t40 := Imp.go t40 (by omega))); (try (have i_t41 := Imp.go t41 (by omega))); (try (have i_t93 := Imp.go t93 (by omega))); (try (have i_t94 := Imp.go t94 (by omega))); omega)))]; exact ew125.trans (by rw [ew124, ew122, ew123, Int64.mul_comm])) (by first | exact om_9e7d2b874257 hn hz126 | first | omega | ((try (have i_t93 := Imp.go t93 (imp_a (rgz90.1) (rgz90.2) (f115)))); (try (have i_t40 := Imp.go t40 (imp_a (rgz37.1) (rgz37.2) (f66)))); (try (have i_t34 := Imp.go t34 (f36))); omega) | ((try (have i_t94 := Imp.go t94 (by omega))); (try (have i_t93 := Imp.go t93 (by omega))); (try (have i_t41 := Imp.go t41 (by omega))); (try (have i_t40 := Imp.go t40 (by omega))); first | omega | ((try (have i_t34 := Imp.go t34 (by omega))); (try (have i_t33 := Imp.go t33 (by omega))); (try (have i_t33 := Imp.go t33 (by omega))); (try (have i_t34 := Imp.go t34 (by omega))); first | omega | ((try (have i_t40 := Imp.go t40 (by omega))); (try (have i_t41 := Imp.go t41 (by omega))); (try (have i_t93 := Imp.go t93 (by omega))); (try (have i_t94 := Imp.go t94 (by omega))); omega)))) hP hD hS (lv_sub hl [1, 2, 3, 0, 4, 5] rfl)
                have pq128 : (V29 0 3).toInt = ((V 0 2)).toInt := congrArg Int32.toInt ((up2_o hV29 (by decide)).trans ((ajV6 0 3 rfl).trans ((up2_k hV3 (by decide)).trans (up2_s hV2))))
                exact lp69 (((V29 0 3).toInt - y4.toInt + 1 : Int).toNat) 0 y4 H locs ls (by first | exact om_fb8e2a868ece r1.2 klp8_0.1 f21 | first | omega | ((try (have i_t40 := Imp.go t40 (imp_a (rgz37.1) (rgz37.2) (f66)))); (try (have i_t34 := Imp.go t34 (f36))); omega) | ((try (have i_t41 := Imp.go t41 (by omega))); (try (have i_t40 := Imp.go t40 (by omega))); (try (have i_t34 := Imp.go t34 (by omega))); (try (have i_t33 := Imp.go t33 (by omega))); first | omega | ((try (have i_t33 := Imp.go t33 (by omega))); (try (have i_t34 := Imp.go t34 (by omega))); (try (have i_t40 := Imp.go t40 (by omega))); (try (have i_t41 := Imp.go t41 (by omega))); omega))) (show y4.toInt ≤ y4.toInt from by first | exact om_5977f3d8a10f | first | omega | ((try (have i_t40 := Imp.go t40 (imp_a (rgz37.1) (rgz37.2) (f66)))); (try (have i_t34 := Imp.go t34 (f36))); omega) | ((try (have i_t41 := Imp.go t41 (by omega))); (try (have i_t40 := Imp.go t40 (by omega))); (try (have i_t34 := Imp.go t34 (by omega))); (try (have i_t33 := Imp.go t33 (by omega))); first | omega | ((try (have i_t33 := Imp.go t33 (by omega))); (try (have i_t34 := Imp.go t34 (by omega))); (try (have i_t40 := Imp.go t40 (by omega))); (try (have i_t41 := Imp.go t41 (by omega))); omega))) (show y4.toInt ≤ (V29 0 3).toInt from by first | exact om_2c59d391d7ea f21 pq128 | first | omega | ((try (have i_t40 := Imp.go t40 (imp_a (rgz37.1) (rgz37.2) (f66)))); (try (have i_t34 := Imp.go t34 (f36))); omega) | ((try (have i_t41 := Imp.go t41 (by omega))); (try (have i_t40 := Imp.go t40 (by omega))); (try (have i_t34 := Imp.go t34 (by omega))); (try (have i_t33 := Imp.go t33 (by omega))); first | omega | ((try (have i_t33 := Imp.go t33 (by omega))); (try (have i_t34 := Imp.go t34 (by omega))); (try (have i_t40 := Imp.go t40 (by omega))); (try (have i_t41 := Imp.go t41 (by omega))); omega))) (fun k a b => absurd a (by omega)) (fun _ => by rw [show (y4.toInt - y4.toInt).toNat = 0 from by omega]; rfl) (by first | exact om_7441a7786481 | first | omega | ((try (have i_t40 := Imp.go t40 (imp_a (rgz37.1) (rgz37.2) (f66)))); (try (have i_t34 := Imp.go t34 (f36))); omega) | ((try (have i_t41 := Imp.go t41 (by omega))); (try (have i_t40 := Imp.go t40 (by omega))); (try (have i_t34 := Imp.go t34 (by omega))); (try (have i_t33 := Imp.go t33 (by omega))); first | omega | ((try (have i_t33 := Imp.go t33 (by omega))); (try (have i_t34 := Imp.go t34 (by omega))); (try (have i_t40 := Imp.go t40 (by omega))); (try (have i_t41 := Imp.go t41 (by omega))); omega))) hP hD hS (lv_sub hl [0, 1, 2, 3, 4, 5] rfl)
            · skip
              have f129 : z30.toInt ≠ 0 := b_neq rfl (by decide) c35
              have lp132 : ∀ (fulp132 : Nat) (y130 : Int64) (y131 : Int32) (H : Heap) (locs : List Loc) (ls : Array Slot), 0 ≤ y131.toInt ∧ y131.toInt ≤ 4000 → y4.toInt ≤ y131.toInt → y131.toInt ≤ (V29 0 3).toInt → (∀ k : Nat, y4.toInt ≤ (k : Int) → (k : Int) < y131.toInt → isLD (V 1 k)) → (y131.toInt - y4.toInt ≤ 12 → y130 = wv (V 1) (y4.toInt).toNat (y131.toInt - y4.toInt).toNat) → (V29 0 3).toInt - y131.toInt < (fulp132 : Int) → va_P D vwCl (mw ad kk ks.1 V29 L7) H → va_D A (mw ad kk ks.1 V29 L7) → va_S A s.heap H locs → lv_has ls 7 [(5, .long y130), (4, .int y4), (3, .int (V 1 (Int32.toNatClampNeg y4))), (2, .int y131), (1, .int y5), (0, .ref (ad 0))] → W p l e r_s_cutAll2 s m ([.ref (ad 0)] : List Value).toArray below meth c H locs 0 0 (MQ below (q_s_cutAll2 D ks ad kk V L  A) ([.ref (ad 0)] : List Value).toArray s 0 0 A) (F0 m 70 ls []) := by
                intro fulp132
                induction fulp132 with
                | zero =>
                  intro y130 y131 H locs ls klp132_0 xlp132_0 xlp132_1 xlp132_2 xlp132_3 hn  hP hD hS hl
                  exfalso; (first | exact om_4634b1278845 xlp132_1 hn | omega)
                | succ fulp132 ihlp132 =>
                  intro y130 y131 H locs ls klp132_0 xlp132_0 xlp132_1 xlp132_2 xlp132_3 hn  hP hD hS hl
                  have pq133 : (V29 0 3).toInt = ((V 0 2)).toInt := congrArg Int32.toInt ((up2_o hV29 (by decide)).trans ((ajV6 0 3 rfl).trans ((up2_k hV3 (by decide)).trans (up2_s hV2))))
                  refine lv_iload_n hx hb dX12_cutAll_70 rfl (lv_at hl 3 rfl) ?_
                  refine lv_aload_n hx hb dX12_cutAll_71 rfl (lv_at hl 5 rfl) ?_
                  refine va_get (D := D) (ci := 12) (v := .int (V29 0 3)) (C := RX12) (T := TX12) (N := 100) hx hb hg inX12 hown hK hP 0 rfl rfl 3 (by decide) (hg _ w1709) (fun _ h9 => h9) rfl dX12_cutAll_72 ?_
                  refine g_top (v := (V 0 2)) ((up2_o hV29 (by decide)).trans ((ajV6 0 3 rfl).trans ((up2_k hV3 (by decide)).trans (up2_s hV2)))) ?_
                  refine lv_icmp_ge (tgt := 141) hx hb dX12_cutAll_75 (by decide) (fun c134 => ?_) (fun c134 => ?_)
                  · skip
                    have f135 : ((V 0 2)).toInt ≤ y131.toInt := b_le rfl rfl c134
                    refine lv_aload_n hx hb dX12_cutAll_141 rfl (lv_at hl 5 rfl) ?_
                    refine va_get (D := D) (ci := 12) (v := .ref (ad 4)) (C := RX12) (T := TX12) (N := 100) hx hb hg inX12 hown hK hP 0 rfl rfl 4 (by decide) (hg _ w1710) (fun _ h9 => h9) rfl dX12_cutAll_142 ?_
                    refine lv_iload_n hx hb dX12_cutAll_145 rfl (lv_at hl 4 rfl) ?_
                    refine lv_iload_n hx hb dX12_cutAll_146 rfl (lv_at hl 3 rfl) ?_
                    refine lv_iload hx hb dX12_cutAll_147 (lv_at hl 1 rfl) ?_
                    refine lv_isub hx hb dX12_cutAll_149 ?_
                    refine lv_topi (fun z136 ez136 => ?_)
                    have hz136 : z136.toInt = y131.toInt - y4.toInt := i_sub ez136 rfl rfl (by (first | exact om_d1f36f80dece r1.2 klp8_0.1 f21 xlp132_1 pq133 f135 | omega))
                    refine lv_bipush (v := 12) hx hb dX12_cutAll_150 (by decide) ?_
                    refine lv_icmp_le (tgt := 159) hx hb dX12_cutAll_152 (by decide) (fun c137 => ?_) (fun c137 => ?_)
                    · skip
                      have f138 : z136.toInt ≤ 12 := b_le rfl (by decide) c137
                      refine lv_iconst (v := 1) hx hb dX12_cutAll_159 (by decide) ?_
                      refine va_iast (D := D) (i := y5) (x := 1) hx hb hK hP hD hS 2 1 rfl rfl (i_in (a := y5.toInt) rfl (by first | exact om_0b7a149ae3dd r1.2 klp8_1.1 xlp8_0 f21 | first | omega | ((try (have i_t34 := Imp.go t34 (by omega))); (try (have i_t33 := Imp.go t33 (by omega))); (try (have i_t33 := Imp.go t33 (by omega))); (try (have i_t34 := Imp.go t34 (by omega))); omega))) dX12_cutAll_160 (fun H locs hP hD hS => ?_)
                      obtain ⟨V139, hV139⟩ : ∃ z, z = up2 V29 4 (Int32.toNatClampNeg y5) 1 := ⟨_, rfl⟩
                      have hP : va_P D vwCl (mw ad kk ks.1 V139 L7) H := by rw [hV139]; exact hP
                      have hD : va_D A (mw ad kk ks.1 V139 L7) := by rw [hV139]; exact hD
                      have hMV139 : rgd bM V139 := hMV29.put hV139 (i_full _)
                      have agV139 : agr [(0, 2), (0, 3), (0, 7), (0, 8)] [4, 5, 6] V V139 := agV29.up hV139 rfl
                      refine lv_goto (tgt := 279) hx hb dX12_cutAll_161 (by decide) ?_
                      refine lv_aload_n hx hb dX12_cutAll_279 rfl (lv_at hl 5 rfl) ?_
                      refine va_get (D := D) (ci := 12) (v := .ref (ad 6)) (C := RX12) (T := TX12) (N := 100) hx hb hg inX12 hown hK hP 0 rfl rfl 6 (by decide) (hg _ w1712) (fun _ h9 => h9) rfl dX12_cutAll_280 ?_
                      refine lv_iload_n hx hb dX12_cutAll_283 rfl (lv_at hl 4 rfl) ?_
                      refine lv_lload hx hb dX12_cutAll_284 (lv_at hl 0 rfl) ?_
                      refine va_last (D := D) (i := y5) (x := y130) hx hb hK hP hD hS 4 3 rfl rfl (i_in (a := y5.toInt) rfl (by first | exact om_0b7a149ae3dd r1.2 klp8_1.1 xlp8_0 f21 | first | omega | ((try (have i_t34 := Imp.go t34 (by omega))); (try (have i_t33 := Imp.go t33 (by omega))); (try (have i_t33 := Imp.go t33 (by omega))); (try (have i_t34 := Imp.go t34 (by omega))); omega))) dX12_cutAll_286 (fun H locs hP hD hS => ?_)
                      obtain ⟨L140, hL140⟩ : ∃ z, z = upL L7 6 (Int32.toNatClampNeg y5) y130 := ⟨_, rfl⟩
                      have hP : va_P D vwCl (mw ad kk ks.1 V139 L140) H := by rw [hL140]; exact hP
                      have hD : va_D A (mw ad kk ks.1 V139 L140) := by rw [hL140]; exact hD
                      have alL140 : agL [4, 5, 6] L L140 := agL.up alL7 hL140 rfl
                      obtain ⟨z141, ez141⟩ : ∃ y : Int32, y = y5 + 1 := ⟨_, rfl⟩
                      have hz141 : z141.toInt = y5.toInt + 1 := i_add ez141 rfl (by decide) (by (first | exact om_2a57709bda2c r1.2 klp8_1.1 xlp8_0 f21 | omega))
                      refine lv_iinc (v := z141) (lv' := [(1, .int z141), (5, .long y130), (4, .int y4), (3, .int (V 1 (Int32.toNatClampNeg y4))), (2, .int y131), (0, .ref (ad 0))]) hx hb dX12_cutAll_287 hl (k := 4) rfl (by rw [ez141]; rfl) (by decide) rfl (fun ls hl => ?_)
                      refine lv_goto (tgt := 17) hx hb dX12_cutAll_290 (by decide) ?_
                      have pq142 : (V139 0 3).toInt = ((V 0 2)).toInt := congrArg Int32.toInt ((up2_o hV139 (by decide)).trans ((up2_o hV29 (by decide)).trans ((ajV6 0 3 rfl).trans ((up2_k hV3 (by decide)).trans (up2_s hV2)))))
                      have kz143 := i_clamp (x := y4) rfl (by (first | exact om_12cf676bc652 klp8_1.1 xlp8_0 | omega))
                      have ez : y4.toInt.toNat = Int32.toNatClampNeg y4 := by (first | exact om_4078e7023535 klp8_1.1 xlp8_0 kz143 | omega)
                      have kz144 := i_clamp (x := y5) rfl (by (first | exact om_eafa9039069c klp8_1.1 | omega))
                      have hd9 : isLt (V 1 y4.toInt.toNat) := by rw [ez]; exact Imp.go t33 (by (first | exact om_2ebe32d50835 rgz30.1 rgz30.2 f129 | omega))
                      have hl0 : y4.toInt.toNat < y131.toInt.toNat := by first | exact om_1235ee861d95 f21 f135 kz143 ez | first | omega | ((try (have i_t34 := Imp.go t34 (by omega))); (try (have i_t33 := Imp.go t33 (by omega))); (try (have i_t33 := Imp.go t33 (by omega))); (try (have i_t34 := Imp.go t34 (by omega))); omega)
                      have hrun : RUN isLD (V 1) (V 0 2).toInt.toNat y4.toInt.toNat y131.toInt.toNat := ⟨hl0, by first | omega | ((try (have i_t34 := Imp.go t34 (by omega))); (try (have i_t33 := Imp.go t33 (by omega))); (try (have i_t33 := Imp.go t33 (by omega))); (try (have i_t34 := Imp.go t34 (by omega))); omega), fun k a b => xlp132_2 k (by omega) (by omega), Or.inl (by first | omega | ((try (have i_t34 := Imp.go t34 (by omega))); (try (have i_t33 := Imp.go t33 (by omega))); (try (have i_t33 := Imp.go t33 (by omega))); (try (have i_t34 := Imp.go t34 (by omega))); omega))⟩
                      exact ihlp8 y131 z141 V139 L140 H locs ls (by first | exact om_1e9f8c1f3f02 r1.2 f21 xlp132_1 pq133 f135 kz143 | first | omega | ((try (have i_t34 := Imp.go t34 (by omega))); (try (have i_t33 := Imp.go t33 (by omega))); (try (have i_t33 := Imp.go t33 (by omega))); (try (have i_t34 := Imp.go t34 (by omega))); omega)) (by first | exact om_4a99a0b23375 r1.2 klp8_1.1 xlp8_0 f21 hz141 | first | omega | ((try (have i_t34 := Imp.go t34 (by omega))); (try (have i_t33 := Imp.go t33 (by omega))); (try (have i_t33 := Imp.go t33 (by omega))); (try (have i_t34 := Imp.go t34 (by omega))); omega)) (show z141.toInt ≤ y131.toInt from by first | exact om_adf5f0c9db78 xlp8_0 f21 f135 hz141 | first | omega | ((try (have i_t34 := Imp.go t34 (by omega))); (try (have i_t33 := Imp.go t33 (by omega))); (try (have i_t33 := Imp.go t33 (by omega))); (try (have i_t34 := Imp.go t34 (by omega))); omega)) (show y131.toInt ≤ (V139 0 3).toInt from by first | exact om_550af7e7eacc xlp132_1 pq133 pq142 | first | omega | ((try (have i_t34 := Imp.go t34 (by omega))); (try (have i_t33 := Imp.go t33 (by omega))); (try (have i_t33 := Imp.go t33 (by omega))); (try (have i_t34 := Imp.go t34 (by omega))); omega)) (RTq.tk (t := y5.toInt.toNat) (p := y4.toInt.toNat) (e := y131.toInt.toNat) xlp8_2 hV29 hV139 hL140 (by omega) (by first | omega | ((try (have i_t34 := Imp.go t34 (by omega))); (try (have i_t33 := Imp.go t33 (by omega))); (try (have i_t33 := Imp.go t33 (by omega))); (try (have i_t34 := Imp.go t34 (by omega))); omega)) rfl (by omega) (by rw [ez]; unfold isBl; omega) (Or.inr (Or.inl ⟨hd9, hrun⟩)) ⟨fun q => absurd hd9 (fun z => dg_lt q z), fun _ => ⟨fun h => absurd h (by first | omega | ((try (have i_t34 := Imp.go t34 (by omega))); (try (have i_t33 := Imp.go t33 (by omega))); (try (have i_t33 := Imp.go t33 (by omega))); (try (have i_t34 := Imp.go t34 (by omega))); omega)), fun h => ⟨by decide, by have z9 := xlp132_3 (by first | omega | ((try (have i_t34 := Imp.go t34 (by omega))); (try (have i_t33 := Imp.go t33 (by omega))); (try (have i_t33 := Imp.go t33 (by omega))); (try (have i_t34 := Imp.go t34 (by omega))); omega)); rw [show (y131.toInt - y4.toInt).toNat = y131.toInt.toNat - y4.toInt.toNat from by omega] at z9; exact z9⟩⟩, fun _ q => absurd hd9 q⟩) (by first | omega | ((try (have i_t34 := Imp.go t34 (by omega))); (try (have i_t33 := Imp.go t33 (by omega))); (try (have i_t33 := Imp.go t33 (by omega))); (try (have i_t34 := Imp.go t34 (by omega))); omega)) alL140 (agr.up (agr.up (agr.tr agr.rf ajV6 (by decide) (by decide)) hV29 rfl) hV139 rfl) hMV139 hP hD hS (lv_sub hl [4, 0, 5] rfl)
                    · skip
                      have f145 : 12 < z136.toInt := b_nle rfl (by decide) c137
                      refine lv_iconst (v := 4) hx hb dX12_cutAll_155 (by decide) ?_
                      refine lv_goto (tgt := 160) hx hb dX12_cutAll_156 (by decide) ?_
                      refine va_iast (D := D) (i := y5) (x := 4) hx hb hK hP hD hS 2 1 rfl rfl (i_in (a := y5.toInt) rfl (by first | exact om_04d76d3dae7d r1.2 klp8_1.1 xlp8_0 xlp132_1 pq133 hz136 f145 | first | omega | ((try (have i_t34 := Imp.go t34 (by omega))); (try (have i_t33 := Imp.go t33 (by omega))); (try (have i_t33 := Imp.go t33 (by omega))); (try (have i_t34 := Imp.go t34 (by omega))); omega))) dX12_cutAll_160 (fun H locs hP hD hS => ?_)
                      obtain ⟨V146, hV146⟩ : ∃ z, z = up2 V29 4 (Int32.toNatClampNeg y5) 4 := ⟨_, rfl⟩
                      have hP : va_P D vwCl (mw ad kk ks.1 V146 L7) H := by rw [hV146]; exact hP
                      have hD : va_D A (mw ad kk ks.1 V146 L7) := by rw [hV146]; exact hD
                      have hMV146 : rgd bM V146 := hMV29.put hV146 (i_full _)
                      have agV146 : agr [(0, 2), (0, 3), (0, 7), (0, 8)] [4, 5, 6] V V146 := agV29.up hV146 rfl
                      refine lv_goto (tgt := 279) hx hb dX12_cutAll_161 (by decide) ?_
                      refine lv_aload_n hx hb dX12_cutAll_279 rfl (lv_at hl 5 rfl) ?_
                      refine va_get (D := D) (ci := 12) (v := .ref (ad 6)) (C := RX12) (T := TX12) (N := 100) hx hb hg inX12 hown hK hP 0 rfl rfl 6 (by decide) (hg _ w1712) (fun _ h9 => h9) rfl dX12_cutAll_280 ?_
                      refine lv_iload_n hx hb dX12_cutAll_283 rfl (lv_at hl 4 rfl) ?_
                      refine lv_lload hx hb dX12_cutAll_284 (lv_at hl 0 rfl) ?_
                      refine va_last (D := D) (i := y5) (x := y130) hx hb hK hP hD hS 4 3 rfl rfl (i_in (a := y5.toInt) rfl (by first | exact om_04d76d3dae7d r1.2 klp8_1.1 xlp8_0 xlp132_1 pq133 hz136 f145 | first | omega | ((try (have i_t34 := Imp.go t34 (by omega))); (try (have i_t33 := Imp.go t33 (by omega))); (try (have i_t33 := Imp.go t33 (by omega))); (try (have i_t34 := Imp.go t34 (by omega))); omega))) dX12_cutAll_286 (fun H locs hP hD hS => ?_)
                      obtain ⟨L147, hL147⟩ : ∃ z, z = upL L7 6 (Int32.toNatClampNeg y5) y130 := ⟨_, rfl⟩
                      have hP : va_P D vwCl (mw ad kk ks.1 V146 L147) H := by rw [hL147]; exact hP
                      have hD : va_D A (mw ad kk ks.1 V146 L147) := by rw [hL147]; exact hD
                      have alL147 : agL [4, 5, 6] L L147 := agL.up alL7 hL147 rfl
                      obtain ⟨z148, ez148⟩ : ∃ y : Int32, y = y5 + 1 := ⟨_, rfl⟩
                      have hz148 : z148.toInt = y5.toInt + 1 := i_add ez148 rfl (by decide) (by (first | exact om_9706f18b5f9f r1.2 klp8_1.1 xlp8_0 xlp132_1 pq133 hz136 f145 | omega))
                      refine lv_iinc (v := z148) (lv' := [(1, .int z148), (5, .long y130), (4, .int y4), (3, .int (V 1 (Int32.toNatClampNeg y4))), (2, .int y131), (0, .ref (ad 0))]) hx hb dX12_cutAll_287 hl (k := 4) rfl (by rw [ez148]; rfl) (by decide) rfl (fun ls hl => ?_)
                      refine lv_goto (tgt := 17) hx hb dX12_cutAll_290 (by decide) ?_
                      have pq149 : (V146 0 3).toInt = ((V 0 2)).toInt := congrArg Int32.toInt ((up2_o hV146 (by decide)).trans ((up2_o hV29 (by decide)).trans ((ajV6 0 3 rfl).trans ((up2_k hV3 (by decide)).trans (up2_s hV2)))))
                      have kz150 := i_clamp (x := y4) rfl (by (first | exact om_12cf676bc652 klp8_1.1 xlp8_0 | omega))
                      have ez : y4.toInt.toNat = Int32.toNatClampNeg y4 := by (first | exact om_4078e7023535 klp8_1.1 xlp8_0 kz150 | omega)
                      have kz151 := i_clamp (x := y5) rfl (by (first | exact om_eafa9039069c klp8_1.1 | omega))
                      have hd9 : isLt (V 1 y4.toInt.toNat) := by rw [ez]; exact Imp.go t33 (by (first | exact om_2ebe32d50835 rgz30.1 rgz30.2 f129 | omega))
                      have hl0 : y4.toInt.toNat < y131.toInt.toNat := by first | exact om_3770ddde9ead hz136 f145 kz150 ez | first | omega | ((try (have i_t34 := Imp.go t34 (by omega))); (try (have i_t33 := Imp.go t33 (by omega))); (try (have i_t33 := Imp.go t33 (by omega))); (try (have i_t34 := Imp.go t34 (by omega))); omega)
                      have hrun : RUN isLD (V 1) (V 0 2).toInt.toNat y4.toInt.toNat y131.toInt.toNat := ⟨hl0, by first | omega | ((try (have i_t34 := Imp.go t34 (by omega))); (try (have i_t33 := Imp.go t33 (by omega))); (try (have i_t33 := Imp.go t33 (by omega))); (try (have i_t34 := Imp.go t34 (by omega))); omega), fun k a b => xlp132_2 k (by omega) (by omega), Or.inl (by first | omega | ((try (have i_t34 := Imp.go t34 (by omega))); (try (have i_t33 := Imp.go t33 (by omega))); (try (have i_t33 := Imp.go t33 (by omega))); (try (have i_t34 := Imp.go t34 (by omega))); omega))⟩
                      exact ihlp8 y131 z148 V146 L147 H locs ls (by first | exact om_61d6a610b6fa r1.2 xlp132_1 pq133 hz136 f145 kz150 | first | omega | ((try (have i_t34 := Imp.go t34 (by omega))); (try (have i_t33 := Imp.go t33 (by omega))); (try (have i_t33 := Imp.go t33 (by omega))); (try (have i_t34 := Imp.go t34 (by omega))); omega)) (by first | exact om_e14a2020e0ec r1.2 klp8_1.1 xlp8_0 xlp132_1 pq133 hz136 f145 hz148 | first | omega | ((try (have i_t34 := Imp.go t34 (by omega))); (try (have i_t33 := Imp.go t33 (by omega))); (try (have i_t33 := Imp.go t33 (by omega))); (try (have i_t34 := Imp.go t34 (by omega))); omega)) (show z148.toInt ≤ y131.toInt from by first | exact om_6ea9ce1a644c xlp8_0 hz136 f145 hz148 | first | omega | ((try (have i_t34 := Imp.go t34 (by omega))); (try (have i_t33 := Imp.go t33 (by omega))); (try (have i_t33 := Imp.go t33 (by omega))); (try (have i_t34 := Imp.go t34 (by omega))); omega)) (show y131.toInt ≤ (V146 0 3).toInt from by first | exact om_550af7e7eacc xlp132_1 pq133 pq149 | first | omega | ((try (have i_t34 := Imp.go t34 (by omega))); (try (have i_t33 := Imp.go t33 (by omega))); (try (have i_t33 := Imp.go t33 (by omega))); (try (have i_t34 := Imp.go t34 (by omega))); omega)) (RTq.tk (t := y5.toInt.toNat) (p := y4.toInt.toNat) (e := y131.toInt.toNat) xlp8_2 hV29 hV146 hL147 (by omega) (by first | omega | ((try (have i_t34 := Imp.go t34 (by omega))); (try (have i_t33 := Imp.go t33 (by omega))); (try (have i_t33 := Imp.go t33 (by omega))); (try (have i_t34 := Imp.go t34 (by omega))); omega)) rfl (by omega) (by rw [ez]; unfold isBl; omega) (Or.inr (Or.inl ⟨hd9, hrun⟩)) ⟨fun q => absurd hd9 (fun z => dg_lt q z), fun _ => ⟨fun _ => by decide, fun h => absurd h (by first | omega | ((try (have i_t34 := Imp.go t34 (by omega))); (try (have i_t33 := Imp.go t33 (by omega))); (try (have i_t33 := Imp.go t33 (by omega))); (try (have i_t34 := Imp.go t34 (by omega))); omega))⟩, fun _ q => absurd hd9 q⟩) (by first | omega | ((try (have i_t34 := Imp.go t34 (by omega))); (try (have i_t33 := Imp.go t33 (by omega))); (try (have i_t33 := Imp.go t33 (by omega))); (try (have i_t34 := Imp.go t34 (by omega))); omega)) alL147 (agr.up (agr.up (agr.tr agr.rf ajV6 (by decide) (by decide)) hV29 rfl) hV146 rfl) hMV146 hP hD hS (lv_sub hl [4, 0, 5] rfl)
                  · skip
                    have f152 : y131.toInt < ((V 0 2)).toInt := b_nle rfl rfl c134
                    refine lv_aload_n hx hb dX12_cutAll_78 rfl (lv_at hl 5 rfl) ?_
                    refine va_get (D := D) (ci := 12) (v := .ref (ad 1)) (C := RX12) (T := TX12) (N := 100) hx hb hg inX12 hown hK hP 0 rfl rfl 1 (by decide) (hg _ w1707) (fun _ h9 => h9) rfl dX12_cutAll_79 ?_
                    refine lv_iload_n hx hb dX12_cutAll_82 rfl (lv_at hl 3 rfl) ?_
                    refine va_iald (D := D) (i := y131) hx hb hK hP 1 0 rfl rfl (i_in (a := y131.toInt) rfl (by first | exact om_ae1ad81edeff r1.2 klp132_0.1 f152 | first | omega | ((try (have i_t34 := Imp.go t34 (by omega))); (try (have i_t33 := Imp.go t33 (by omega))); (try (have i_t33 := Imp.go t33 (by omega))); (try (have i_t34 := Imp.go t34 (by omega))); omega))) dX12_cutAll_83 ?_
                    refine g_top (v := (V 1 (Int32.toNatClampNeg y131))) ((up2_o hV29 (by decide)).trans ((ajV6 1 (Int32.toNatClampNeg y131) rfl).trans ((up2_o hV3 (by decide)).trans (up2_o hV2 (by decide))))) ?_
                    refine gE_int (g_runS (As := [.int (V 1 (Int32.toNatClampNeg y131))]) (rest := []) (wc := []) (tc := []) hx hb hml hown hg gw_self hP hD hK hS hA hnw hgk [] [] (by decide) rfl rfl (s_isLetter l D ks H.size (V 1 (Int32.toNatClampNeg y131)) ) w1703 w1704 w172 w1705 hdS_yX12_isLetter ⟨Nat.le_of_ble_eq_true rfl, Nat.le_of_ble_eq_true rfl⟩ rfl hl.1 rfl (Nat.le_of_ble_eq_true rfl) dX12_cutAll_84 ⟨Nat.le_of_ble_eq_true rfl, Nat.le_of_ble_eq_true rfl⟩) hP hD hK hS hA (fun z153 u154 H locs w155 hP hD hK hS => ?_)
                    obtain ⟨rgz153, t156, t157⟩ := w155
                    have rgz153 : 0 ≤ z153.toInt ∧ z153.toInt ≤ 1 := rgz153
                    have t156 : Imp (z153.toInt = 1) (97 ≤ ((V 1 (Int32.toNatClampNeg y131))).toInt ∧ ((V 1 (Int32.toNatClampNeg y131))).toInt ≤ 122) := t156
                    have t157 : Imp (z153.toInt = 0) (((V 1 (Int32.toNatClampNeg y131))).toInt < 97 ∨ 122 < ((V 1 (Int32.toNatClampNeg y131))).toInt) := t157
                    refine lv_if_ne (tgt := 102) hx hb dX12_cutAll_87 (by decide) (fun c158 => ?_) (fun c158 => ?_)
                    · skip
                      have f159 : z153.toInt ≠ 0 := b_neq rfl (by decide) c158
                      refine lv_iload_n hx hb dX12_cutAll_102 rfl (lv_at hl 3 rfl) ?_
                      refine lv_iload hx hb dX12_cutAll_103 (lv_at hl 1 rfl) ?_
                      refine lv_isub hx hb dX12_cutAll_105 ?_
                      refine lv_topi (fun z160 ez160 => ?_)
                      have hz160 : z160.toInt = y131.toInt - y4.toInt := i_sub ez160 rfl rfl (by (first | exact om_3e0184275307 r1.2 klp8_0.1 xlp132_0 f152 | omega))
                      refine lv_bipush (v := 12) hx hb dX12_cutAll_106 (by decide) ?_
                      refine lv_icmp_ge (tgt := 131) hx hb dX12_cutAll_108 (by decide) (fun c161 => ?_) (fun c161 => ?_)
                      · skip
                        have f162 : 12 ≤ z160.toInt := b_le (by decide) rfl c161
                        refine lv_lload hx hb dX12_cutAll_131 (lv_at hl 0 rfl) ?_
                        refine lv_lstore (lv' := [(5, .long y130), (4, .int y4), (3, .int (V 1 (Int32.toNatClampNeg y4))), (2, .int y131), (1, .int y5), (0, .ref (ad 0))]) hx hb dX12_cutAll_133 hl (by decide) rfl (fun ls hl => ?_)
                        obtain ⟨z163, ez163⟩ : ∃ y : Int32, y = y131 + 1 := ⟨_, rfl⟩
                        have hz163 : z163.toInt = y131.toInt + 1 := i_add ez163 rfl (by decide) (by (first | exact om_1fb90afb766b r1.2 klp8_0.1 f152 hz160 f162 | omega))
                        refine lv_iinc (v := z163) (lv' := [(2, .int z163), (5, .long y130), (4, .int y4), (3, .int (V 1 (Int32.toNatClampNeg y4))), (1, .int y5), (0, .ref (ad 0))]) hx hb dX12_cutAll_135 hl (k := 3) rfl (by rw [ez163]; rfl) (by decide) rfl (fun ls hl => ?_)
                        refine lv_goto (tgt := 70) hx hb dX12_cutAll_138 (by decide) ?_
                        have kz164 := i_clamp (x := y131) rfl (by (first | exact om_80d93412bfaf klp8_0.1 hz160 f162 | omega))
                        have hld : isLD (V 1 (Int32.toNatClampNeg y131)) := Or.inl (Imp.go t156 (by (first | exact om_2ebe32d50835 rgz153.1 rgz153.2 f159 | omega)))
                        exact ihlp132 y130 z163 H locs ls (by first | exact om_dccd5b7d6bc1 r1.2 klp8_0.1 f152 hz160 f162 hz163 | first | omega | ((try (have i_t156 := Imp.go t156 (imp_a (rgz153.1) (rgz153.2) (f159)))); (try (have i_t33 := Imp.go t33 (imp_a (rgz30.1) (rgz30.2) (f129)))); omega) | ((try (have i_t157 := Imp.go t157 (by omega))); (try (have i_t156 := Imp.go t156 (by omega))); (try (have i_t34 := Imp.go t34 (by omega))); (try (have i_t33 := Imp.go t33 (by omega))); first | omega | ((try (have i_t33 := Imp.go t33 (by omega))); (try (have i_t34 := Imp.go t34 (by omega))); (try (have i_t156 := Imp.go t156 (by omega))); (try (have i_t157 := Imp.go t157 (by omega))); omega))) (show y4.toInt ≤ z163.toInt from by first | exact om_d6b680963097 hz160 f162 hz163 | first | omega | ((try (have i_t156 := Imp.go t156 (imp_a (rgz153.1) (rgz153.2) (f159)))); (try (have i_t33 := Imp.go t33 (imp_a (rgz30.1) (rgz30.2) (f129)))); omega) | ((try (have i_t157 := Imp.go t157 (by omega))); (try (have i_t156 := Imp.go t156 (by omega))); (try (have i_t34 := Imp.go t34 (by omega))); (try (have i_t33 := Imp.go t33 (by omega))); first | omega | ((try (have i_t33 := Imp.go t33 (by omega))); (try (have i_t34 := Imp.go t34 (by omega))); (try (have i_t156 := Imp.go t156 (by omega))); (try (have i_t157 := Imp.go t157 (by omega))); omega))) (show z163.toInt ≤ (V29 0 3).toInt from by first | exact om_79347f38c257 pq133 f152 hz163 | first | omega | ((try (have i_t156 := Imp.go t156 (imp_a (rgz153.1) (rgz153.2) (f159)))); (try (have i_t33 := Imp.go t33 (imp_a (rgz30.1) (rgz30.2) (f129)))); omega) | ((try (have i_t157 := Imp.go t157 (by omega))); (try (have i_t156 := Imp.go t156 (by omega))); (try (have i_t34 := Imp.go t34 (by omega))); (try (have i_t33 := Imp.go t33 (by omega))); first | omega | ((try (have i_t33 := Imp.go t33 (by omega))); (try (have i_t34 := Imp.go t34 (by omega))); (try (have i_t156 := Imp.go t156 (by omega))); (try (have i_t157 := Imp.go t157 (by omega))); omega))) (fun k a b => by by_cases c : (k : Int) < y131.toInt; exact xlp132_2 k a c; have ek : k = Int32.toNatClampNeg y131 := (by first | omega | ((try (have i_t156 := Imp.go t156 (imp_a (rgz153.1) (rgz153.2) (f159)))); (try (have i_t33 := Imp.go t33 (imp_a (rgz30.1) (rgz30.2) (f129)))); omega) | ((try (have i_t157 := Imp.go t157 (by omega))); (try (have i_t156 := Imp.go t156 (by omega))); (try (have i_t34 := Imp.go t34 (by omega))); (try (have i_t33 := Imp.go t33 (by omega))); first | omega | ((try (have i_t33 := Imp.go t33 (by omega))); (try (have i_t34 := Imp.go t34 (by omega))); (try (have i_t156 := Imp.go t156 (by omega))); (try (have i_t157 := Imp.go t157 (by omega))); omega))); rw [ek]; exact hld) (fun h9 => absurd h9 (by first | omega | ((try (have i_t156 := Imp.go t156 (imp_a (rgz153.1) (rgz153.2) (f159)))); (try (have i_t33 := Imp.go t33 (imp_a (rgz30.1) (rgz30.2) (f129)))); omega) | ((try (have i_t157 := Imp.go t157 (by omega))); (try (have i_t156 := Imp.go t156 (by omega))); (try (have i_t34 := Imp.go t34 (by omega))); (try (have i_t33 := Imp.go t33 (by omega))); first | omega | ((try (have i_t33 := Imp.go t33 (by omega))); (try (have i_t34 := Imp.go t34 (by omega))); (try (have i_t156 := Imp.go t156 (by omega))); (try (have i_t157 := Imp.go t157 (by omega))); omega)))) (by first | exact om_9e7d2b874257 hn hz163 | first | omega | ((try (have i_t156 := Imp.go t156 (imp_a (rgz153.1) (rgz153.2) (f159)))); (try (have i_t33 := Imp.go t33 (imp_a (rgz30.1) (rgz30.2) (f129)))); omega) | ((try (have i_t157 := Imp.go t157 (by omega))); (try (have i_t156 := Imp.go t156 (by omega))); (try (have i_t34 := Imp.go t34 (by omega))); (try (have i_t33 := Imp.go t33 (by omega))); first | omega | ((try (have i_t33 := Imp.go t33 (by omega))); (try (have i_t34 := Imp.go t34 (by omega))); (try (have i_t156 := Imp.go t156 (by omega))); (try (have i_t157 := Imp.go t157 (by omega))); omega))) hP hD hS (lv_sub hl [1, 2, 3, 0, 4, 5] rfl)
                      · skip
                        have f165 : z160.toInt < 12 := b_nle (by decide) rfl c161
                        refine lv_ldc2 (v := 37) hx hb hown (hg _ w1699) dX12_cutAll_111 ?_
                        refine lv_lload hx hb dX12_cutAll_114 (lv_at hl 0 rfl) ?_
                        refine lv_lmul hx hb dX12_cutAll_116 ?_
                        refine lv_topl (fun w166 ew166 => ?_)
                        refine lv_aload_n hx hb dX12_cutAll_117 rfl (lv_at hl 5 rfl) ?_
                        refine va_get (D := D) (ci := 12) (v := .ref (ad 1)) (C := RX12) (T := TX12) (N := 100) hx hb hg inX12 hown hK hP 0 rfl rfl 1 (by decide) (hg _ w1707) (fun _ h9 => h9) rfl dX12_cutAll_118 ?_
                        refine lv_iload_n hx hb dX12_cutAll_121 rfl (lv_at hl 3 rfl) ?_
                        refine va_iald (D := D) (i := y131) hx hb hK hP 1 0 rfl rfl (i_in (a := y131.toInt) rfl (by first | exact om_f319e852899e r1.2 klp8_0.1 xlp132_0 f152 | first | omega | ((try (have i_t156 := Imp.go t156 (imp_a (rgz153.1) (rgz153.2) (f159)))); (try (have i_t33 := Imp.go t33 (imp_a (rgz30.1) (rgz30.2) (f129)))); omega) | ((try (have i_t157 := Imp.go t157 (by omega))); (try (have i_t156 := Imp.go t156 (by omega))); (try (have i_t34 := Imp.go t34 (by omega))); (try (have i_t33 := Imp.go t33 (by omega))); first | omega | ((try (have i_t33 := Imp.go t33 (by omega))); (try (have i_t34 := Imp.go t34 (by omega))); (try (have i_t156 := Imp.go t156 (by omega))); (try (have i_t157 := Imp.go t157 (by omega))); omega)))) dX12_cutAll_122 ?_
                        refine g_top (v := (V 1 (Int32.toNatClampNeg y131))) ((up2_o hV29 (by decide)).trans ((ajV6 1 (Int32.toNatClampNeg y131) rfl).trans ((up2_o hV3 (by decide)).trans (up2_o hV2 (by decide))))) ?_
                        refine gE_int (g_runS (As := [.int (V 1 (Int32.toNatClampNeg y131))]) (rest := [.long w166]) (wc := []) (tc := []) hx hb hml hown hg gw_self hP hD hK hS hA hnw hgk [] [] (by decide) rfl rfl (s_rank2 l D ks H.size (V 1 (Int32.toNatClampNeg y131)) ) w1700 w1701 w172 w1702 hdS_yX12_rank ⟨Nat.le_of_ble_eq_true rfl, Nat.le_of_ble_eq_true rfl⟩ rfl hl.1 rfl (Nat.le_of_ble_eq_true rfl) dX12_cutAll_123 ⟨Nat.le_of_ble_eq_true rfl, Nat.le_of_ble_eq_true rfl⟩) hP hD hK hS hA (fun z167 u168 H locs w169 hP hD hK hS => ?_)
                        have t170 := w169
                        have t170 : z167 = (if 97 ≤ ((V 1 (Int32.toNatClampNeg y131))).toInt ∧ ((V 1 (Int32.toNatClampNeg y131))).toInt ≤ 122 then (V 1 (Int32.toNatClampNeg y131)) - 96 else (V 1 (Int32.toNatClampNeg y131)) - 21) := t170
                        refine lv_i2l hx hb dX12_cutAll_126 rfl ?_
                        refine lv_topl (fun w171 ew171 => ?_)
                        refine lv_ladd hx hb dX12_cutAll_127 ?_
                        refine lv_topl (fun w172 ew172 => ?_)
                        refine lv_goto (tgt := 133) hx hb dX12_cutAll_128 (by decide) ?_
                        refine lv_lstore (lv' := [(5, .long w172), (4, .int y4), (3, .int (V 1 (Int32.toNatClampNeg y4))), (2, .int y131), (1, .int y5), (0, .ref (ad 0))]) hx hb dX12_cutAll_133 hl (by decide) rfl (fun ls hl => ?_)
                        obtain ⟨z173, ez173⟩ : ∃ y : Int32, y = y131 + 1 := ⟨_, rfl⟩
                        have hz173 : z173.toInt = y131.toInt + 1 := i_add ez173 rfl (by decide) (by (first | exact om_cf147208ce66 r1.2 klp8_0.1 xlp132_0 f152 | omega))
                        refine lv_iinc (v := z173) (lv' := [(2, .int z173), (5, .long w172), (4, .int y4), (3, .int (V 1 (Int32.toNatClampNeg y4))), (1, .int y5), (0, .ref (ad 0))]) hx hb dX12_cutAll_135 hl (k := 3) rfl (by rw [ez173]; rfl) (by decide) rfl (fun ls hl => ?_)
                        refine lv_goto (tgt := 70) hx hb dX12_cutAll_138 (by decide) ?_
                        have kz174 := i_clamp (x := y131) rfl (by (first | exact om_12cf676bc652 klp8_0.1 xlp132_0 | omega))
                        have hld : isLD (V 1 (Int32.toNatClampNeg y131)) := Or.inl (Imp.go t156 (by (first | exact om_2ebe32d50835 rgz153.1 rgz153.2 f159 | omega)))
                        exact ihlp132 w172 z173 H locs ls (by first | exact om_324fc6cf93cf r1.2 klp8_0.1 xlp132_0 f152 hz173 | first | omega | ((try (have i_t156 := Imp.go t156 (imp_a (rgz153.1) (rgz153.2) (f159)))); (try (have i_t33 := Imp.go t33 (imp_a (rgz30.1) (rgz30.2) (f129)))); omega) | ((try (have i_t157 := Imp.go t157 (by omega))); (try (have i_t156 := Imp.go t156 (by omega))); (try (have i_t34 := Imp.go t34 (by omega))); (try (have i_t33 := Imp.go t33 (by omega))); first | omega | ((try (have i_t33 := Imp.go t33 (by omega))); (try (have i_t34 := Imp.go t34 (by omega))); (try (have i_t156 := Imp.go t156 (by omega))); (try (have i_t157 := Imp.go t157 (by omega))); omega))) (show y4.toInt ≤ z173.toInt from by first | exact om_f75a30b4c815 xlp132_0 hz173 | first | omega | ((try (have i_t156 := Imp.go t156 (imp_a (rgz153.1) (rgz153.2) (f159)))); (try (have i_t33 := Imp.go t33 (imp_a (rgz30.1) (rgz30.2) (f129)))); omega) | ((try (have i_t157 := Imp.go t157 (by omega))); (try (have i_t156 := Imp.go t156 (by omega))); (try (have i_t34 := Imp.go t34 (by omega))); (try (have i_t33 := Imp.go t33 (by omega))); first | omega | ((try (have i_t33 := Imp.go t33 (by omega))); (try (have i_t34 := Imp.go t34 (by omega))); (try (have i_t156 := Imp.go t156 (by omega))); (try (have i_t157 := Imp.go t157 (by omega))); omega))) (show z173.toInt ≤ (V29 0 3).toInt from by first | exact om_79347f38c257 pq133 f152 hz173 | first | omega | ((try (have i_t156 := Imp.go t156 (imp_a (rgz153.1) (rgz153.2) (f159)))); (try (have i_t33 := Imp.go t33 (imp_a (rgz30.1) (rgz30.2) (f129)))); omega) | ((try (have i_t157 := Imp.go t157 (by omega))); (try (have i_t156 := Imp.go t156 (by omega))); (try (have i_t34 := Imp.go t34 (by omega))); (try (have i_t33 := Imp.go t33 (by omega))); first | omega | ((try (have i_t33 := Imp.go t33 (by omega))); (try (have i_t34 := Imp.go t34 (by omega))); (try (have i_t156 := Imp.go t156 (by omega))); (try (have i_t157 := Imp.go t157 (by omega))); omega))) (fun k a b => by by_cases c : (k : Int) < y131.toInt; exact xlp132_2 k a c; have ek : k = Int32.toNatClampNeg y131 := (by first | omega | ((try (have i_t156 := Imp.go t156 (imp_a (rgz153.1) (rgz153.2) (f159)))); (try (have i_t33 := Imp.go t33 (imp_a (rgz30.1) (rgz30.2) (f129)))); omega) | ((try (have i_t157 := Imp.go t157 (by omega))); (try (have i_t156 := Imp.go t156 (by omega))); (try (have i_t34 := Imp.go t34 (by omega))); (try (have i_t33 := Imp.go t33 (by omega))); first | omega | ((try (have i_t33 := Imp.go t33 (by omega))); (try (have i_t34 := Imp.go t34 (by omega))); (try (have i_t156 := Imp.go t156 (by omega))); (try (have i_t157 := Imp.go t157 (by omega))); omega))); rw [ek]; exact hld) (fun h9 => by rw [show (z173.toInt - y4.toInt).toNat = (y131.toInt - y4.toInt).toNat + 1 from by first | omega | ((try (have i_t156 := Imp.go t156 (imp_a (rgz153.1) (rgz153.2) (f159)))); (try (have i_t33 := Imp.go t33 (imp_a (rgz30.1) (rgz30.2) (f129)))); omega) | ((try (have i_t157 := Imp.go t157 (by omega))); (try (have i_t156 := Imp.go t156 (by omega))); (try (have i_t34 := Imp.go t34 (by omega))); (try (have i_t33 := Imp.go t33 (by omega))); first | omega | ((try (have i_t33 := Imp.go t33 (by omega))); (try (have i_t34 := Imp.go t34 (by omega))); (try (have i_t156 := Imp.go t156 (by omega))); (try (have i_t157 := Imp.go t157 (by omega))); omega)), wv_s, ← xlp132_3 (by first | omega | ((try (have i_t156 := Imp.go t156 (imp_a (rgz153.1) (rgz153.2) (f159)))); (try (have i_t33 := Imp.go t33 (imp_a (rgz30.1) (rgz30.2) (f129)))); omega) | ((try (have i_t157 := Imp.go t157 (by omega))); (try (have i_t156 := Imp.go t156 (by omega))); (try (have i_t34 := Imp.go t34 (by omega))); (try (have i_t33 := Imp.go t33 (by omega))); first | omega | ((try (have i_t33 := Imp.go t33 (by omega))); (try (have i_t34 := Imp.go t34 (by omega))); (try (have i_t156 := Imp.go t156 (by omega))); (try (have i_t157 := Imp.go t157 (by omega))); omega))), show y4.toInt.toNat + (y131.toInt - y4.toInt).toNat = Int32.toNatClampNeg y131 from by first | omega | ((try (have i_t156 := Imp.go t156 (imp_a (rgz153.1) (rgz153.2) (f159)))); (try (have i_t33 := Imp.go t33 (imp_a (rgz30.1) (rgz30.2) (f129)))); omega) | ((try (have i_t157 := Imp.go t157 (by omega))); (try (have i_t156 := Imp.go t156 (by omega))); (try (have i_t34 := Imp.go t34 (by omega))); (try (have i_t33 := Imp.go t33 (by omega))); first | omega | ((try (have i_t33 := Imp.go t33 (by omega))); (try (have i_t34 := Imp.go t34 (by omega))); (try (have i_t156 := Imp.go t156 (by omega))); (try (have i_t157 := Imp.go t157 (by omega))); omega))]; exact ew172.trans (by rw [ew166, ew171, t170, rk_cd hld, Int64.mul_comm])) (by first | exact om_9e7d2b874257 hn hz173 | first | omega | ((try (have i_t156 := Imp.go t156 (imp_a (rgz153.1) (rgz153.2) (f159)))); (try (have i_t33 := Imp.go t33 (imp_a (rgz30.1) (rgz30.2) (f129)))); omega) | ((try (have i_t157 := Imp.go t157 (by omega))); (try (have i_t156 := Imp.go t156 (by omega))); (try (have i_t34 := Imp.go t34 (by omega))); (try (have i_t33 := Imp.go t33 (by omega))); first | omega | ((try (have i_t33 := Imp.go t33 (by omega))); (try (have i_t34 := Imp.go t34 (by omega))); (try (have i_t156 := Imp.go t156 (by omega))); (try (have i_t157 := Imp.go t157 (by omega))); omega))) hP hD hS (lv_sub hl [1, 2, 3, 0, 4, 5] rfl)
                    · skip
                      have f175 : z153.toInt = 0 := b_eq rfl (by decide) c158
                      refine lv_aload_n hx hb dX12_cutAll_90 rfl (lv_at hl 5 rfl) ?_
                      refine va_get (D := D) (ci := 12) (v := .ref (ad 1)) (C := RX12) (T := TX12) (N := 100) hx hb hg inX12 hown hK hP 0 rfl rfl 1 (by decide) (hg _ w1707) (fun _ h9 => h9) rfl dX12_cutAll_91 ?_
                      refine lv_iload_n hx hb dX12_cutAll_94 rfl (lv_at hl 3 rfl) ?_
                      refine va_iald (D := D) (i := y131) hx hb hK hP 1 0 rfl rfl (i_in (a := y131.toInt) rfl (by first | exact om_ae1ad81edeff r1.2 klp132_0.1 f152 | first | omega | ((try (have i_t157 := Imp.go t157 (f175))); (try (have i_t33 := Imp.go t33 (imp_a (rgz30.1) (rgz30.2) (f129)))); omega) | ((try (have i_t157 := Imp.go t157 (by omega))); (try (have i_t156 := Imp.go t156 (by omega))); (try (have i_t34 := Imp.go t34 (by omega))); (try (have i_t33 := Imp.go t33 (by omega))); first | omega | ((try (have i_t33 := Imp.go t33 (by omega))); (try (have i_t34 := Imp.go t34 (by omega))); (try (have i_t156 := Imp.go t156 (by omega))); (try (have i_t157 := Imp.go t157 (by omega))); omega)))) dX12_cutAll_95 ?_
                      refine g_top (v := (V 1 (Int32.toNatClampNeg y131))) ((up2_o hV29 (by decide)).trans ((ajV6 1 (Int32.toNatClampNeg y131) rfl).trans ((up2_o hV3 (by decide)).trans (up2_o hV2 (by decide))))) ?_
                      refine gE_int (g_runS (As := [.int (V 1 (Int32.toNatClampNeg y131))]) (rest := []) (wc := []) (tc := []) hx hb hml hown hg gw_self hP hD hK hS hA hnw hgk [] [] (by decide) rfl rfl (s_isDigit l D ks H.size (V 1 (Int32.toNatClampNeg y131)) ) w2015 w2016 w172 w2017 hdS_yX12_isDigit ⟨Nat.le_of_ble_eq_true rfl, Nat.le_of_ble_eq_true rfl⟩ rfl hl.1 rfl (Nat.le_of_ble_eq_true rfl) dX12_cutAll_96 ⟨Nat.le_of_ble_eq_true rfl, Nat.le_of_ble_eq_true rfl⟩) hP hD hK hS hA (fun z176 u177 H locs w178 hP hD hK hS => ?_)
                      obtain ⟨rgz176, t179, t180⟩ := w178
                      have rgz176 : 0 ≤ z176.toInt ∧ z176.toInt ≤ 1 := rgz176
                      have t179 : Imp (z176.toInt = 1) (48 ≤ ((V 1 (Int32.toNatClampNeg y131))).toInt ∧ ((V 1 (Int32.toNatClampNeg y131))).toInt ≤ 57) := t179
                      have t180 : Imp (z176.toInt = 0) (((V 1 (Int32.toNatClampNeg y131))).toInt < 48 ∨ 57 < ((V 1 (Int32.toNatClampNeg y131))).toInt) := t180
                      refine lv_if_eq (tgt := 141) hx hb dX12_cutAll_99 (by decide) (fun c181 => ?_) (fun c181 => ?_)
                      · skip
                        have f182 : z176.toInt = 0 := b_eq rfl (by decide) c181
                        refine lv_aload_n hx hb dX12_cutAll_141 rfl (lv_at hl 5 rfl) ?_
                        refine va_get (D := D) (ci := 12) (v := .ref (ad 4)) (C := RX12) (T := TX12) (N := 100) hx hb hg inX12 hown hK hP 0 rfl rfl 4 (by decide) (hg _ w1710) (fun _ h9 => h9) rfl dX12_cutAll_142 ?_
                        refine lv_iload_n hx hb dX12_cutAll_145 rfl (lv_at hl 4 rfl) ?_
                        refine lv_iload_n hx hb dX12_cutAll_146 rfl (lv_at hl 3 rfl) ?_
                        refine lv_iload hx hb dX12_cutAll_147 (lv_at hl 1 rfl) ?_
                        refine lv_isub hx hb dX12_cutAll_149 ?_
                        refine lv_topi (fun z183 ez183 => ?_)
                        have hz183 : z183.toInt = y131.toInt - y4.toInt := i_sub ez183 rfl rfl (by (first | exact om_3e0184275307 r1.2 klp8_0.1 xlp132_0 f152 | omega))
                        refine lv_bipush (v := 12) hx hb dX12_cutAll_150 (by decide) ?_
                        refine lv_icmp_le (tgt := 159) hx hb dX12_cutAll_152 (by decide) (fun c184 => ?_) (fun c184 => ?_)
                        · skip
                          have f185 : z183.toInt ≤ 12 := b_le rfl (by decide) c184
                          refine lv_iconst (v := 1) hx hb dX12_cutAll_159 (by decide) ?_
                          refine va_iast (D := D) (i := y5) (x := 1) hx hb hK hP hD hS 2 1 rfl rfl (i_in (a := y5.toInt) rfl (by first | exact om_aa98f8f91ce4 r1.2 klp8_1.1 xlp8_0 xlp132_0 f152 | first | omega | ((try (have i_t180 := Imp.go t180 (f182))); (try (have i_t157 := Imp.go t157 (f175))); (try (have i_t33 := Imp.go t33 (imp_a (rgz30.1) (rgz30.2) (f129)))); omega) | ((try (have i_t180 := Imp.go t180 (by omega))); (try (have i_t179 := Imp.go t179 (by omega))); (try (have i_t157 := Imp.go t157 (by omega))); (try (have i_t156 := Imp.go t156 (by omega))); first | omega | ((try (have i_t34 := Imp.go t34 (by omega))); (try (have i_t33 := Imp.go t33 (by omega))); (try (have i_t33 := Imp.go t33 (by omega))); (try (have i_t34 := Imp.go t34 (by omega))); first | omega | ((try (have i_t156 := Imp.go t156 (by omega))); (try (have i_t157 := Imp.go t157 (by omega))); (try (have i_t179 := Imp.go t179 (by omega))); (try (have i_t180 := Imp.go t180 (by omega))); omega))))) dX12_cutAll_160 (fun H locs hP hD hS => ?_)
                          obtain ⟨V186, hV186⟩ : ∃ z, z = up2 V29 4 (Int32.toNatClampNeg y5) 1 := ⟨_, rfl⟩
                          have hP : va_P D vwCl (mw ad kk ks.1 V186 L7) H := by rw [hV186]; exact hP
                          have hD : va_D A (mw ad kk ks.1 V186 L7) := by rw [hV186]; exact hD
                          have hMV186 : rgd bM V186 := hMV29.put hV186 (i_full _)
                          have agV186 : agr [(0, 2), (0, 3), (0, 7), (0, 8)] [4, 5, 6] V V186 := agV29.up hV186 rfl
                          refine lv_goto (tgt := 279) hx hb dX12_cutAll_161 (by decide) ?_
                          refine lv_aload_n hx hb dX12_cutAll_279 rfl (lv_at hl 5 rfl) ?_
                          refine va_get (D := D) (ci := 12) (v := .ref (ad 6)) (C := RX12) (T := TX12) (N := 100) hx hb hg inX12 hown hK hP 0 rfl rfl 6 (by decide) (hg _ w1712) (fun _ h9 => h9) rfl dX12_cutAll_280 ?_
                          refine lv_iload_n hx hb dX12_cutAll_283 rfl (lv_at hl 4 rfl) ?_
                          refine lv_lload hx hb dX12_cutAll_284 (lv_at hl 0 rfl) ?_
                          refine va_last (D := D) (i := y5) (x := y130) hx hb hK hP hD hS 4 3 rfl rfl (i_in (a := y5.toInt) rfl (by first | exact om_aa98f8f91ce4 r1.2 klp8_1.1 xlp8_0 xlp132_0 f152 | first | omega | ((try (have i_t180 := Imp.go t180 (f182))); (try (have i_t157 := Imp.go t157 (f175))); (try (have i_t33 := Imp.go t33 (imp_a (rgz30.1) (rgz30.2) (f129)))); omega) | ((try (have i_t180 := Imp.go t180 (by omega))); (try (have i_t179 := Imp.go t179 (by omega))); (try (have i_t157 := Imp.go t157 (by omega))); (try (have i_t156 := Imp.go t156 (by omega))); first | omega | ((try (have i_t34 := Imp.go t34 (by omega))); (try (have i_t33 := Imp.go t33 (by omega))); (try (have i_t33 := Imp.go t33 (by omega))); (try (have i_t34 := Imp.go t34 (by omega))); first | omega | ((try (have i_t156 := Imp.go t156 (by omega))); (try (have i_t157 := Imp.go t157 (by omega))); (try (have i_t179 := Imp.go t179 (by omega))); (try (have i_t180 := Imp.go t180 (by omega))); omega))))) dX12_cutAll_286 (fun H locs hP hD hS => ?_)
                          obtain ⟨L187, hL187⟩ : ∃ z, z = upL L7 6 (Int32.toNatClampNeg y5) y130 := ⟨_, rfl⟩
                          have hP : va_P D vwCl (mw ad kk ks.1 V186 L187) H := by rw [hL187]; exact hP
                          have hD : va_D A (mw ad kk ks.1 V186 L187) := by rw [hL187]; exact hD
                          have alL187 : agL [4, 5, 6] L L187 := agL.up alL7 hL187 rfl
                          obtain ⟨z188, ez188⟩ : ∃ y : Int32, y = y5 + 1 := ⟨_, rfl⟩
                          have hz188 : z188.toInt = y5.toInt + 1 := i_add ez188 rfl (by decide) (by (first | exact om_30d39efafedb r1.2 klp8_1.1 xlp8_0 xlp132_0 f152 | omega))
                          refine lv_iinc (v := z188) (lv' := [(1, .int z188), (5, .long y130), (4, .int y4), (3, .int (V 1 (Int32.toNatClampNeg y4))), (2, .int y131), (0, .ref (ad 0))]) hx hb dX12_cutAll_287 hl (k := 4) rfl (by rw [ez188]; rfl) (by decide) rfl (fun ls hl => ?_)
                          refine lv_goto (tgt := 17) hx hb dX12_cutAll_290 (by decide) ?_
                          have pq189 : (V186 0 3).toInt = ((V 0 2)).toInt := congrArg Int32.toInt ((up2_o hV186 (by decide)).trans ((up2_o hV29 (by decide)).trans ((ajV6 0 3 rfl).trans ((up2_k hV3 (by decide)).trans (up2_s hV2)))))
                          have kz190 := i_clamp (x := y4) rfl (by (first | exact om_eafa9039069c klp8_0.1 | omega))
                          have ez : y4.toInt.toNat = Int32.toNatClampNeg y4 := by (first | exact om_14d446f7993c klp8_0.1 kz190 | omega)
                          have kz191 := i_clamp (x := y5) rfl (by (first | exact om_eafa9039069c klp8_1.1 | omega))
                          have hd9 : isLt (V 1 y4.toInt.toNat) := by rw [ez]; exact Imp.go t33 (by (first | exact om_2ebe32d50835 rgz30.1 rgz30.2 f129 | omega))
                          have kz192 := i_clamp (x := y131) rfl (by (first | exact om_12cf676bc652 klp8_0.1 xlp132_0 | omega))
                          have ez2 : y131.toInt.toNat = Int32.toNatClampNeg y131 := by (first | exact om_4078e7023535 klp8_0.1 xlp132_0 kz192 | omega)
                          have hnd : ¬ isLD (V 1 y131.toInt.toNat) := by rw [ez2]; exact fun q => q.elim (fun z => by have y := Imp.go t157 (by (first | exact om_b1799fcf2d63 rgz153.1 f175 | omega)); have z1 := z.1; have z2 := z.2; omega) (fun z => by have y := Imp.go t180 (by (first | exact om_b1799fcf2d63 rgz176.1 f182 | omega)); have z1 := z.1; have z2 := z.2; omega)
                          have hl0 : y4.toInt.toNat < y131.toInt.toNat := Nat.lt_of_le_of_ne (by omega) (fun h0 => hnd (by rw [← h0]; exact Or.inl hd9))
                          have hrun : RUN isLD (V 1) (V 0 2).toInt.toNat y4.toInt.toNat y131.toInt.toNat := ⟨hl0, by first | omega | ((try (have i_t180 := Imp.go t180 (f182))); (try (have i_t157 := Imp.go t157 (f175))); (try (have i_t33 := Imp.go t33 (imp_a (rgz30.1) (rgz30.2) (f129)))); omega) | ((try (have i_t180 := Imp.go t180 (by omega))); (try (have i_t179 := Imp.go t179 (by omega))); (try (have i_t157 := Imp.go t157 (by omega))); (try (have i_t156 := Imp.go t156 (by omega))); first | omega | ((try (have i_t34 := Imp.go t34 (by omega))); (try (have i_t33 := Imp.go t33 (by omega))); (try (have i_t33 := Imp.go t33 (by omega))); (try (have i_t34 := Imp.go t34 (by omega))); first | omega | ((try (have i_t156 := Imp.go t156 (by omega))); (try (have i_t157 := Imp.go t157 (by omega))); (try (have i_t179 := Imp.go t179 (by omega))); (try (have i_t180 := Imp.go t180 (by omega))); omega))), fun k a b => xlp132_2 k (by omega) (by omega), Or.inr hnd⟩
                          exact ihlp8 y131 z188 V186 L187 H locs ls (by first | exact om_6a0f2de44dff r1.2 klp8_0.1 f152 kz190 ez kz192 ez2 hl0 | first | omega | ((try (have i_t180 := Imp.go t180 (f182))); (try (have i_t157 := Imp.go t157 (f175))); (try (have i_t33 := Imp.go t33 (imp_a (rgz30.1) (rgz30.2) (f129)))); omega) | ((try (have i_t180 := Imp.go t180 (by omega))); (try (have i_t179 := Imp.go t179 (by omega))); (try (have i_t157 := Imp.go t157 (by omega))); (try (have i_t156 := Imp.go t156 (by omega))); first | omega | ((try (have i_t34 := Imp.go t34 (by omega))); (try (have i_t33 := Imp.go t33 (by omega))); (try (have i_t33 := Imp.go t33 (by omega))); (try (have i_t34 := Imp.go t34 (by omega))); first | omega | ((try (have i_t156 := Imp.go t156 (by omega))); (try (have i_t157 := Imp.go t157 (by omega))); (try (have i_t179 := Imp.go t179 (by omega))); (try (have i_t180 := Imp.go t180 (by omega))); omega)))) (by first | exact om_24f218c02418 r1.2 klp8_1.1 xlp8_0 f152 hz188 kz190 ez kz192 ez2 hl0 | first | omega | ((try (have i_t180 := Imp.go t180 (f182))); (try (have i_t157 := Imp.go t157 (f175))); (try (have i_t33 := Imp.go t33 (imp_a (rgz30.1) (rgz30.2) (f129)))); omega) | ((try (have i_t180 := Imp.go t180 (by omega))); (try (have i_t179 := Imp.go t179 (by omega))); (try (have i_t157 := Imp.go t157 (by omega))); (try (have i_t156 := Imp.go t156 (by omega))); first | omega | ((try (have i_t34 := Imp.go t34 (by omega))); (try (have i_t33 := Imp.go t33 (by omega))); (try (have i_t33 := Imp.go t33 (by omega))); (try (have i_t34 := Imp.go t34 (by omega))); first | omega | ((try (have i_t156 := Imp.go t156 (by omega))); (try (have i_t157 := Imp.go t157 (by omega))); (try (have i_t179 := Imp.go t179 (by omega))); (try (have i_t180 := Imp.go t180 (by omega))); omega)))) (show z188.toInt ≤ y131.toInt from by first | exact om_6c7f30948ec0 xlp8_0 hz188 kz190 ez kz192 ez2 hl0 | first | omega | ((try (have i_t180 := Imp.go t180 (f182))); (try (have i_t157 := Imp.go t157 (f175))); (try (have i_t33 := Imp.go t33 (imp_a (rgz30.1) (rgz30.2) (f129)))); omega) | ((try (have i_t180 := Imp.go t180 (by omega))); (try (have i_t179 := Imp.go t179 (by omega))); (try (have i_t157 := Imp.go t157 (by omega))); (try (have i_t156 := Imp.go t156 (by omega))); first | omega | ((try (have i_t34 := Imp.go t34 (by omega))); (try (have i_t33 := Imp.go t33 (by omega))); (try (have i_t33 := Imp.go t33 (by omega))); (try (have i_t34 := Imp.go t34 (by omega))); first | omega | ((try (have i_t156 := Imp.go t156 (by omega))); (try (have i_t157 := Imp.go t157 (by omega))); (try (have i_t179 := Imp.go t179 (by omega))); (try (have i_t180 := Imp.go t180 (by omega))); omega)))) (show y131.toInt ≤ (V186 0 3).toInt from by first | exact om_2c59d391d7ea f152 pq189 | first | omega | ((try (have i_t180 := Imp.go t180 (f182))); (try (have i_t157 := Imp.go t157 (f175))); (try (have i_t33 := Imp.go t33 (imp_a (rgz30.1) (rgz30.2) (f129)))); omega) | ((try (have i_t180 := Imp.go t180 (by omega))); (try (have i_t179 := Imp.go t179 (by omega))); (try (have i_t157 := Imp.go t157 (by omega))); (try (have i_t156 := Imp.go t156 (by omega))); first | omega | ((try (have i_t34 := Imp.go t34 (by omega))); (try (have i_t33 := Imp.go t33 (by omega))); (try (have i_t33 := Imp.go t33 (by omega))); (try (have i_t34 := Imp.go t34 (by omega))); first | omega | ((try (have i_t156 := Imp.go t156 (by omega))); (try (have i_t157 := Imp.go t157 (by omega))); (try (have i_t179 := Imp.go t179 (by omega))); (try (have i_t180 := Imp.go t180 (by omega))); omega)))) (RTq.tk (t := y5.toInt.toNat) (p := y4.toInt.toNat) (e := y131.toInt.toNat) xlp8_2 hV29 hV186 hL187 (by omega) (by first | omega | ((try (have i_t180 := Imp.go t180 (f182))); (try (have i_t157 := Imp.go t157 (f175))); (try (have i_t33 := Imp.go t33 (imp_a (rgz30.1) (rgz30.2) (f129)))); omega) | ((try (have i_t180 := Imp.go t180 (by omega))); (try (have i_t179 := Imp.go t179 (by omega))); (try (have i_t157 := Imp.go t157 (by omega))); (try (have i_t156 := Imp.go t156 (by omega))); first | omega | ((try (have i_t34 := Imp.go t34 (by omega))); (try (have i_t33 := Imp.go t33 (by omega))); (try (have i_t33 := Imp.go t33 (by omega))); (try (have i_t34 := Imp.go t34 (by omega))); first | omega | ((try (have i_t156 := Imp.go t156 (by omega))); (try (have i_t157 := Imp.go t157 (by omega))); (try (have i_t179 := Imp.go t179 (by omega))); (try (have i_t180 := Imp.go t180 (by omega))); omega)))) rfl (by omega) (by rw [ez]; unfold isBl; omega) (Or.inr (Or.inl ⟨hd9, hrun⟩)) ⟨fun q => absurd hd9 (fun z => dg_lt q z), fun _ => ⟨fun h => absurd h (by first | omega | ((try (have i_t180 := Imp.go t180 (f182))); (try (have i_t157 := Imp.go t157 (f175))); (try (have i_t33 := Imp.go t33 (imp_a (rgz30.1) (rgz30.2) (f129)))); omega) | ((try (have i_t180 := Imp.go t180 (by omega))); (try (have i_t179 := Imp.go t179 (by omega))); (try (have i_t157 := Imp.go t157 (by omega))); (try (have i_t156 := Imp.go t156 (by omega))); first | omega | ((try (have i_t34 := Imp.go t34 (by omega))); (try (have i_t33 := Imp.go t33 (by omega))); (try (have i_t33 := Imp.go t33 (by omega))); (try (have i_t34 := Imp.go t34 (by omega))); first | omega | ((try (have i_t156 := Imp.go t156 (by omega))); (try (have i_t157 := Imp.go t157 (by omega))); (try (have i_t179 := Imp.go t179 (by omega))); (try (have i_t180 := Imp.go t180 (by omega))); omega)))), fun h => ⟨by decide, by have z9 := xlp132_3 (by first | omega | ((try (have i_t180 := Imp.go t180 (f182))); (try (have i_t157 := Imp.go t157 (f175))); (try (have i_t33 := Imp.go t33 (imp_a (rgz30.1) (rgz30.2) (f129)))); omega) | ((try (have i_t180 := Imp.go t180 (by omega))); (try (have i_t179 := Imp.go t179 (by omega))); (try (have i_t157 := Imp.go t157 (by omega))); (try (have i_t156 := Imp.go t156 (by omega))); first | omega | ((try (have i_t34 := Imp.go t34 (by omega))); (try (have i_t33 := Imp.go t33 (by omega))); (try (have i_t33 := Imp.go t33 (by omega))); (try (have i_t34 := Imp.go t34 (by omega))); first | omega | ((try (have i_t156 := Imp.go t156 (by omega))); (try (have i_t157 := Imp.go t157 (by omega))); (try (have i_t179 := Imp.go t179 (by omega))); (try (have i_t180 := Imp.go t180 (by omega))); omega)))); rw [show (y131.toInt - y4.toInt).toNat = y131.toInt.toNat - y4.toInt.toNat from by omega] at z9; exact z9⟩⟩, fun _ q => absurd hd9 q⟩) (by first | omega | ((try (have i_t180 := Imp.go t180 (f182))); (try (have i_t157 := Imp.go t157 (f175))); (try (have i_t33 := Imp.go t33 (imp_a (rgz30.1) (rgz30.2) (f129)))); omega) | ((try (have i_t180 := Imp.go t180 (by omega))); (try (have i_t179 := Imp.go t179 (by omega))); (try (have i_t157 := Imp.go t157 (by omega))); (try (have i_t156 := Imp.go t156 (by omega))); first | omega | ((try (have i_t34 := Imp.go t34 (by omega))); (try (have i_t33 := Imp.go t33 (by omega))); (try (have i_t33 := Imp.go t33 (by omega))); (try (have i_t34 := Imp.go t34 (by omega))); first | omega | ((try (have i_t156 := Imp.go t156 (by omega))); (try (have i_t157 := Imp.go t157 (by omega))); (try (have i_t179 := Imp.go t179 (by omega))); (try (have i_t180 := Imp.go t180 (by omega))); omega)))) alL187 (agr.up (agr.up (agr.tr agr.rf ajV6 (by decide) (by decide)) hV29 rfl) hV186 rfl) hMV186 hP hD hS (lv_sub hl [4, 0, 5] rfl)
                        · skip
                          have f193 : 12 < z183.toInt := b_nle rfl (by decide) c184
                          refine lv_iconst (v := 4) hx hb dX12_cutAll_155 (by decide) ?_
                          refine lv_goto (tgt := 160) hx hb dX12_cutAll_156 (by decide) ?_
                          refine va_iast (D := D) (i := y5) (x := 4) hx hb hK hP hD hS 2 1 rfl rfl (i_in (a := y5.toInt) rfl (by first | exact om_2d9327cee6e3 r1.2 klp8_1.1 xlp8_0 f152 hz183 f193 | first | omega | ((try (have i_t180 := Imp.go t180 (f182))); (try (have i_t157 := Imp.go t157 (f175))); (try (have i_t33 := Imp.go t33 (imp_a (rgz30.1) (rgz30.2) (f129)))); omega) | ((try (have i_t180 := Imp.go t180 (by omega))); (try (have i_t179 := Imp.go t179 (by omega))); (try (have i_t157 := Imp.go t157 (by omega))); (try (have i_t156 := Imp.go t156 (by omega))); first | omega | ((try (have i_t34 := Imp.go t34 (by omega))); (try (have i_t33 := Imp.go t33 (by omega))); (try (have i_t33 := Imp.go t33 (by omega))); (try (have i_t34 := Imp.go t34 (by omega))); first | omega | ((try (have i_t156 := Imp.go t156 (by omega))); (try (have i_t157 := Imp.go t157 (by omega))); (try (have i_t179 := Imp.go t179 (by omega))); (try (have i_t180 := Imp.go t180 (by omega))); omega))))) dX12_cutAll_160 (fun H locs hP hD hS => ?_)
                          obtain ⟨V194, hV194⟩ : ∃ z, z = up2 V29 4 (Int32.toNatClampNeg y5) 4 := ⟨_, rfl⟩
                          have hP : va_P D vwCl (mw ad kk ks.1 V194 L7) H := by rw [hV194]; exact hP
                          have hD : va_D A (mw ad kk ks.1 V194 L7) := by rw [hV194]; exact hD
                          have hMV194 : rgd bM V194 := hMV29.put hV194 (i_full _)
                          have agV194 : agr [(0, 2), (0, 3), (0, 7), (0, 8)] [4, 5, 6] V V194 := agV29.up hV194 rfl
                          refine lv_goto (tgt := 279) hx hb dX12_cutAll_161 (by decide) ?_
                          refine lv_aload_n hx hb dX12_cutAll_279 rfl (lv_at hl 5 rfl) ?_
                          refine va_get (D := D) (ci := 12) (v := .ref (ad 6)) (C := RX12) (T := TX12) (N := 100) hx hb hg inX12 hown hK hP 0 rfl rfl 6 (by decide) (hg _ w1712) (fun _ h9 => h9) rfl dX12_cutAll_280 ?_
                          refine lv_iload_n hx hb dX12_cutAll_283 rfl (lv_at hl 4 rfl) ?_
                          refine lv_lload hx hb dX12_cutAll_284 (lv_at hl 0 rfl) ?_
                          refine va_last (D := D) (i := y5) (x := y130) hx hb hK hP hD hS 4 3 rfl rfl (i_in (a := y5.toInt) rfl (by first | exact om_2d9327cee6e3 r1.2 klp8_1.1 xlp8_0 f152 hz183 f193 | first | omega | ((try (have i_t180 := Imp.go t180 (f182))); (try (have i_t157 := Imp.go t157 (f175))); (try (have i_t33 := Imp.go t33 (imp_a (rgz30.1) (rgz30.2) (f129)))); omega) | ((try (have i_t180 := Imp.go t180 (by omega))); (try (have i_t179 := Imp.go t179 (by omega))); (try (have i_t157 := Imp.go t157 (by omega))); (try (have i_t156 := Imp.go t156 (by omega))); first | omega | ((try (have i_t34 := Imp.go t34 (by omega))); (try (have i_t33 := Imp.go t33 (by omega))); (try (have i_t33 := Imp.go t33 (by omega))); (try (have i_t34 := Imp.go t34 (by omega))); first | omega | ((try (have i_t156 := Imp.go t156 (by omega))); (try (have i_t157 := Imp.go t157 (by omega))); (try (have i_t179 := Imp.go t179 (by omega))); (try (have i_t180 := Imp.go t180 (by omega))); omega))))) dX12_cutAll_286 (fun H locs hP hD hS => ?_)
                          obtain ⟨L195, hL195⟩ : ∃ z, z = upL L7 6 (Int32.toNatClampNeg y5) y130 := ⟨_, rfl⟩
                          have hP : va_P D vwCl (mw ad kk ks.1 V194 L195) H := by rw [hL195]; exact hP
                          have hD : va_D A (mw ad kk ks.1 V194 L195) := by rw [hL195]; exact hD
                          have alL195 : agL [4, 5, 6] L L195 := agL.up alL7 hL195 rfl
                          obtain ⟨z196, ez196⟩ : ∃ y : Int32, y = y5 + 1 := ⟨_, rfl⟩
                          have hz196 : z196.toInt = y5.toInt + 1 := i_add ez196 rfl (by decide) (by (first | exact om_3b17cd8605eb r1.2 klp8_1.1 xlp8_0 f152 hz183 f193 | omega))
                          refine lv_iinc (v := z196) (lv' := [(1, .int z196), (5, .long y130), (4, .int y4), (3, .int (V 1 (Int32.toNatClampNeg y4))), (2, .int y131), (0, .ref (ad 0))]) hx hb dX12_cutAll_287 hl (k := 4) rfl (by rw [ez196]; rfl) (by decide) rfl (fun ls hl => ?_)
                          refine lv_goto (tgt := 17) hx hb dX12_cutAll_290 (by decide) ?_
                          have pq197 : (V194 0 3).toInt = ((V 0 2)).toInt := congrArg Int32.toInt ((up2_o hV194 (by decide)).trans ((up2_o hV29 (by decide)).trans ((ajV6 0 3 rfl).trans ((up2_k hV3 (by decide)).trans (up2_s hV2)))))
                          have kz198 := i_clamp (x := y4) rfl (by (first | exact om_eafa9039069c klp8_0.1 | omega))
                          have ez : y4.toInt.toNat = Int32.toNatClampNeg y4 := by (first | exact om_14d446f7993c klp8_0.1 kz198 | omega)
                          have kz199 := i_clamp (x := y5) rfl (by (first | exact om_eafa9039069c klp8_1.1 | omega))
                          have hd9 : isLt (V 1 y4.toInt.toNat) := by rw [ez]; exact Imp.go t33 (by (first | exact om_2ebe32d50835 rgz30.1 rgz30.2 f129 | omega))
                          have kz200 := i_clamp (x := y131) rfl (by (first | exact om_f1e3a2569a38 klp8_0.1 hz183 f193 | omega))
                          have ez2 : y131.toInt.toNat = Int32.toNatClampNeg y131 := by (first | exact om_42b033729e36 klp8_0.1 hz183 f193 kz200 | omega)
                          have hnd : ¬ isLD (V 1 y131.toInt.toNat) := by rw [ez2]; exact fun q => q.elim (fun z => by have y := Imp.go t157 (by (first | exact om_b1799fcf2d63 rgz153.1 f175 | omega)); have z1 := z.1; have z2 := z.2; omega) (fun z => by have y := Imp.go t180 (by (first | exact om_b1799fcf2d63 rgz176.1 f182 | omega)); have z1 := z.1; have z2 := z.2; omega)
                          have hl0 : y4.toInt.toNat < y131.toInt.toNat := Nat.lt_of_le_of_ne (by omega) (fun h0 => hnd (by rw [← h0]; exact Or.inl hd9))
                          have hrun : RUN isLD (V 1) (V 0 2).toInt.toNat y4.toInt.toNat y131.toInt.toNat := ⟨hl0, by first | omega | ((try (have i_t180 := Imp.go t180 (f182))); (try (have i_t157 := Imp.go t157 (f175))); (try (have i_t33 := Imp.go t33 (imp_a (rgz30.1) (rgz30.2) (f129)))); omega) | ((try (have i_t180 := Imp.go t180 (by omega))); (try (have i_t179 := Imp.go t179 (by omega))); (try (have i_t157 := Imp.go t157 (by omega))); (try (have i_t156 := Imp.go t156 (by omega))); first | omega | ((try (have i_t34 := Imp.go t34 (by omega))); (try (have i_t33 := Imp.go t33 (by omega))); (try (have i_t33 := Imp.go t33 (by omega))); (try (have i_t34 := Imp.go t34 (by omega))); first | omega | ((try (have i_t156 := Imp.go t156 (by omega))); (try (have i_t157 := Imp.go t157 (by omega))); (try (have i_t179 := Imp.go t179 (by omega))); (try (have i_t180 := Imp.go t180 (by omega))); omega))), fun k a b => xlp132_2 k (by omega) (by omega), Or.inr hnd⟩
                          exact ihlp8 y131 z196 V194 L195 H locs ls (by first | exact om_9c48d3932e0b r1.2 klp8_0.1 f152 hz183 f193 | first | omega | ((try (have i_t180 := Imp.go t180 (f182))); (try (have i_t157 := Imp.go t157 (f175))); (try (have i_t33 := Imp.go t33 (imp_a (rgz30.1) (rgz30.2) (f129)))); omega) | ((try (have i_t180 := Imp.go t180 (by omega))); (try (have i_t179 := Imp.go t179 (by omega))); (try (have i_t157 := Imp.go t157 (by omega))); (try (have i_t156 := Imp.go t156 (by omega))); first | omega | ((try (have i_t34 := Imp.go t34 (by omega))); (try (have i_t33 := Imp.go t33 (by omega))); (try (have i_t33 := Imp.go t33 (by omega))); (try (have i_t34 := Imp.go t34 (by omega))); first | omega | ((try (have i_t156 := Imp.go t156 (by omega))); (try (have i_t157 := Imp.go t157 (by omega))); (try (have i_t179 := Imp.go t179 (by omega))); (try (have i_t180 := Imp.go t180 (by omega))); omega)))) (by first | exact om_7a8739bfe9ff r1.2 klp8_1.1 xlp8_0 f152 hz183 f193 hz196 | first | omega | ((try (have i_t180 := Imp.go t180 (f182))); (try (have i_t157 := Imp.go t157 (f175))); (try (have i_t33 := Imp.go t33 (imp_a (rgz30.1) (rgz30.2) (f129)))); omega) | ((try (have i_t180 := Imp.go t180 (by omega))); (try (have i_t179 := Imp.go t179 (by omega))); (try (have i_t157 := Imp.go t157 (by omega))); (try (have i_t156 := Imp.go t156 (by omega))); first | omega | ((try (have i_t34 := Imp.go t34 (by omega))); (try (have i_t33 := Imp.go t33 (by omega))); (try (have i_t33 := Imp.go t33 (by omega))); (try (have i_t34 := Imp.go t34 (by omega))); first | omega | ((try (have i_t156 := Imp.go t156 (by omega))); (try (have i_t157 := Imp.go t157 (by omega))); (try (have i_t179 := Imp.go t179 (by omega))); (try (have i_t180 := Imp.go t180 (by omega))); omega)))) (show z196.toInt ≤ y131.toInt from by first | exact om_6ea9ce1a644c xlp8_0 hz183 f193 hz196 | first | omega | ((try (have i_t180 := Imp.go t180 (f182))); (try (have i_t157 := Imp.go t157 (f175))); (try (have i_t33 := Imp.go t33 (imp_a (rgz30.1) (rgz30.2) (f129)))); omega) | ((try (have i_t180 := Imp.go t180 (by omega))); (try (have i_t179 := Imp.go t179 (by omega))); (try (have i_t157 := Imp.go t157 (by omega))); (try (have i_t156 := Imp.go t156 (by omega))); first | omega | ((try (have i_t34 := Imp.go t34 (by omega))); (try (have i_t33 := Imp.go t33 (by omega))); (try (have i_t33 := Imp.go t33 (by omega))); (try (have i_t34 := Imp.go t34 (by omega))); first | omega | ((try (have i_t156 := Imp.go t156 (by omega))); (try (have i_t157 := Imp.go t157 (by omega))); (try (have i_t179 := Imp.go t179 (by omega))); (try (have i_t180 := Imp.go t180 (by omega))); omega)))) (show y131.toInt ≤ (V194 0 3).toInt from by first | exact om_2c59d391d7ea f152 pq197 | first | omega | ((try (have i_t180 := Imp.go t180 (f182))); (try (have i_t157 := Imp.go t157 (f175))); (try (have i_t33 := Imp.go t33 (imp_a (rgz30.1) (rgz30.2) (f129)))); omega) | ((try (have i_t180 := Imp.go t180 (by omega))); (try (have i_t179 := Imp.go t179 (by omega))); (try (have i_t157 := Imp.go t157 (by omega))); (try (have i_t156 := Imp.go t156 (by omega))); first | omega | ((try (have i_t34 := Imp.go t34 (by omega))); (try (have i_t33 := Imp.go t33 (by omega))); (try (have i_t33 := Imp.go t33 (by omega))); (try (have i_t34 := Imp.go t34 (by omega))); first | omega | ((try (have i_t156 := Imp.go t156 (by omega))); (try (have i_t157 := Imp.go t157 (by omega))); (try (have i_t179 := Imp.go t179 (by omega))); (try (have i_t180 := Imp.go t180 (by omega))); omega)))) (RTq.tk (t := y5.toInt.toNat) (p := y4.toInt.toNat) (e := y131.toInt.toNat) xlp8_2 hV29 hV194 hL195 (by omega) (by first | omega | ((try (have i_t180 := Imp.go t180 (f182))); (try (have i_t157 := Imp.go t157 (f175))); (try (have i_t33 := Imp.go t33 (imp_a (rgz30.1) (rgz30.2) (f129)))); omega) | ((try (have i_t180 := Imp.go t180 (by omega))); (try (have i_t179 := Imp.go t179 (by omega))); (try (have i_t157 := Imp.go t157 (by omega))); (try (have i_t156 := Imp.go t156 (by omega))); first | omega | ((try (have i_t34 := Imp.go t34 (by omega))); (try (have i_t33 := Imp.go t33 (by omega))); (try (have i_t33 := Imp.go t33 (by omega))); (try (have i_t34 := Imp.go t34 (by omega))); first | omega | ((try (have i_t156 := Imp.go t156 (by omega))); (try (have i_t157 := Imp.go t157 (by omega))); (try (have i_t179 := Imp.go t179 (by omega))); (try (have i_t180 := Imp.go t180 (by omega))); omega)))) rfl (by omega) (by rw [ez]; unfold isBl; omega) (Or.inr (Or.inl ⟨hd9, hrun⟩)) ⟨fun q => absurd hd9 (fun z => dg_lt q z), fun _ => ⟨fun _ => by decide, fun h => absurd h (by first | omega | ((try (have i_t180 := Imp.go t180 (f182))); (try (have i_t157 := Imp.go t157 (f175))); (try (have i_t33 := Imp.go t33 (imp_a (rgz30.1) (rgz30.2) (f129)))); omega) | ((try (have i_t180 := Imp.go t180 (by omega))); (try (have i_t179 := Imp.go t179 (by omega))); (try (have i_t157 := Imp.go t157 (by omega))); (try (have i_t156 := Imp.go t156 (by omega))); first | omega | ((try (have i_t34 := Imp.go t34 (by omega))); (try (have i_t33 := Imp.go t33 (by omega))); (try (have i_t33 := Imp.go t33 (by omega))); (try (have i_t34 := Imp.go t34 (by omega))); first | omega | ((try (have i_t156 := Imp.go t156 (by omega))); (try (have i_t157 := Imp.go t157 (by omega))); (try (have i_t179 := Imp.go t179 (by omega))); (try (have i_t180 := Imp.go t180 (by omega))); omega))))⟩, fun _ q => absurd hd9 q⟩) (by first | omega | ((try (have i_t180 := Imp.go t180 (f182))); (try (have i_t157 := Imp.go t157 (f175))); (try (have i_t33 := Imp.go t33 (imp_a (rgz30.1) (rgz30.2) (f129)))); omega) | ((try (have i_t180 := Imp.go t180 (by omega))); (try (have i_t179 := Imp.go t179 (by omega))); (try (have i_t157 := Imp.go t157 (by omega))); (try (have i_t156 := Imp.go t156 (by omega))); first | omega | ((try (have i_t34 := Imp.go t34 (by omega))); (try (have i_t33 := Imp.go t33 (by omega))); (try (have i_t33 := Imp.go t33 (by omega))); (try (have i_t34 := Imp.go t34 (by omega))); first | omega | ((try (have i_t156 := Imp.go t156 (by omega))); (try (have i_t157 := Imp.go t157 (by omega))); (try (have i_t179 := Imp.go t179 (by omega))); (try (have i_t180 := Imp.go t180 (by omega))); omega)))) alL195 (agr.up (agr.up (agr.tr agr.rf ajV6 (by decide) (by decide)) hV29 rfl) hV194 rfl) hMV194 hP hD hS (lv_sub hl [4, 0, 5] rfl)
                      · skip
                        have f201 : z176.toInt ≠ 0 := b_neq rfl (by decide) c181
                        refine lv_iload_n hx hb dX12_cutAll_102 rfl (lv_at hl 3 rfl) ?_
                        refine lv_iload hx hb dX12_cutAll_103 (lv_at hl 1 rfl) ?_
                        refine lv_isub hx hb dX12_cutAll_105 ?_
                        refine lv_topi (fun z202 ez202 => ?_)
                        have hz202 : z202.toInt = y131.toInt - y4.toInt := i_sub ez202 rfl rfl (by (first | exact om_3e0184275307 r1.2 klp8_0.1 xlp132_0 f152 | omega))
                        refine lv_bipush (v := 12) hx hb dX12_cutAll_106 (by decide) ?_
                        refine lv_icmp_ge (tgt := 131) hx hb dX12_cutAll_108 (by decide) (fun c203 => ?_) (fun c203 => ?_)
                        · skip
                          have f204 : 12 ≤ z202.toInt := b_le (by decide) rfl c203
                          refine lv_lload hx hb dX12_cutAll_131 (lv_at hl 0 rfl) ?_
                          refine lv_lstore (lv' := [(5, .long y130), (4, .int y4), (3, .int (V 1 (Int32.toNatClampNeg y4))), (2, .int y131), (1, .int y5), (0, .ref (ad 0))]) hx hb dX12_cutAll_133 hl (by decide) rfl (fun ls hl => ?_)
                          obtain ⟨z205, ez205⟩ : ∃ y : Int32, y = y131 + 1 := ⟨_, rfl⟩
                          have hz205 : z205.toInt = y131.toInt + 1 := i_add ez205 rfl (by decide) (by (first | exact om_1fb90afb766b r1.2 klp8_0.1 f152 hz202 f204 | omega))
                          refine lv_iinc (v := z205) (lv' := [(2, .int z205), (5, .long y130), (4, .int y4), (3, .int (V 1 (Int32.toNatClampNeg y4))), (1, .int y5), (0, .ref (ad 0))]) hx hb dX12_cutAll_135 hl (k := 3) rfl (by rw [ez205]; rfl) (by decide) rfl (fun ls hl => ?_)
                          refine lv_goto (tgt := 70) hx hb dX12_cutAll_138 (by decide) ?_
                          have kz206 := i_clamp (x := y131) rfl (by (first | exact om_80d93412bfaf klp8_0.1 hz202 f204 | omega))
                          have hld : isLD (V 1 (Int32.toNatClampNeg y131)) := Or.inr (Imp.go t179 (by (first | exact om_2ebe32d50835 rgz176.1 rgz176.2 f201 | omega)))
                          exact ihlp132 y130 z205 H locs ls (by first | exact om_dccd5b7d6bc1 r1.2 klp8_0.1 f152 hz202 f204 hz205 | first | omega | ((try (have i_t179 := Imp.go t179 (imp_a (rgz176.1) (rgz176.2) (f201)))); (try (have i_t157 := Imp.go t157 (f175))); (try (have i_t33 := Imp.go t33 (imp_a (rgz30.1) (rgz30.2) (f129)))); omega) | ((try (have i_t180 := Imp.go t180 (by omega))); (try (have i_t179 := Imp.go t179 (by omega))); (try (have i_t157 := Imp.go t157 (by omega))); (try (have i_t156 := Imp.go t156 (by omega))); first | omega | ((try (have i_t34 := Imp.go t34 (by omega))); (try (have i_t33 := Imp.go t33 (by omega))); (try (have i_t33 := Imp.go t33 (by omega))); (try (have i_t34 := Imp.go t34 (by omega))); first | omega | ((try (have i_t156 := Imp.go t156 (by omega))); (try (have i_t157 := Imp.go t157 (by omega))); (try (have i_t179 := Imp.go t179 (by omega))); (try (have i_t180 := Imp.go t180 (by omega))); omega)))) (show y4.toInt ≤ z205.toInt from by first | exact om_d6b680963097 hz202 f204 hz205 | first | omega | ((try (have i_t179 := Imp.go t179 (imp_a (rgz176.1) (rgz176.2) (f201)))); (try (have i_t157 := Imp.go t157 (f175))); (try (have i_t33 := Imp.go t33 (imp_a (rgz30.1) (rgz30.2) (f129)))); omega) | ((try (have i_t180 := Imp.go t180 (by omega))); (try (have i_t179 := Imp.go t179 (by omega))); (try (have i_t157 := Imp.go t157 (by omega))); (try (have i_t156 := Imp.go t156 (by omega))); first | omega | ((try (have i_t34 := Imp.go t34 (by omega))); (try (have i_t33 := Imp.go t33 (by omega))); (try (have i_t33 := Imp.go t33 (by omega))); (try (have i_t34 := Imp.go t34 (by omega))); first | omega | ((try (have i_t156 := Imp.go t156 (by omega))); (try (have i_t157 := Imp.go t157 (by omega))); (try (have i_t179 := Imp.go t179 (by omega))); (try (have i_t180 := Imp.go t180 (by omega))); omega)))) (show z205.toInt ≤ (V29 0 3).toInt from by first | exact om_79347f38c257 pq133 f152 hz205 | first | omega | ((try (have i_t179 := Imp.go t179 (imp_a (rgz176.1) (rgz176.2) (f201)))); (try (have i_t157 := Imp.go t157 (f175))); (try (have i_t33 := Imp.go t33 (imp_a (rgz30.1) (rgz30.2) (f129)))); omega) | ((try (have i_t180 := Imp.go t180 (by omega))); (try (have i_t179 := Imp.go t179 (by omega))); (try (have i_t157 := Imp.go t157 (by omega))); (try (have i_t156 := Imp.go t156 (by omega))); first | omega | ((try (have i_t34 := Imp.go t34 (by omega))); (try (have i_t33 := Imp.go t33 (by omega))); (try (have i_t33 := Imp.go t33 (by omega))); (try (have i_t34 := Imp.go t34 (by omega))); first | omega | ((try (have i_t156 := Imp.go t156 (by omega))); (try (have i_t157 := Imp.go t157 (by omega))); (try (have i_t179 := Imp.go t179 (by omega))); (try (have i_t180 := Imp.go t180 (by omega))); omega)))) (fun k a b => by by_cases c : (k : Int) < y131.toInt; exact xlp132_2 k a c; have ek : k = Int32.toNatClampNeg y131 := (by first | omega | ((try (have i_t179 := Imp.go t179 (imp_a (rgz176.1) (rgz176.2) (f201)))); (try (have i_t157 := Imp.go t157 (f175))); (try (have i_t33 := Imp.go t33 (imp_a (rgz30.1) (rgz30.2) (f129)))); omega) | ((try (have i_t180 := Imp.go t180 (by omega))); (try (have i_t179 := Imp.go t179 (by omega))); (try (have i_t157 := Imp.go t157 (by omega))); (try (have i_t156 := Imp.go t156 (by omega))); first | omega | ((try (have i_t34 := Imp.go t34 (by omega))); (try (have i_t33 := Imp.go t33 (by omega))); (try (have i_t33 := Imp.go t33 (by omega))); (try (have i_t34 := Imp.go t34 (by omega))); first | omega | ((try (have i_t156 := Imp.go t156 (by omega))); (try (have i_t157 := Imp.go t157 (by omega))); (try (have i_t179 := Imp.go t179 (by omega))); (try (have i_t180 := Imp.go t180 (by omega))); omega)))); rw [ek]; exact hld) (fun h9 => absurd h9 (by first | omega | ((try (have i_t179 := Imp.go t179 (imp_a (rgz176.1) (rgz176.2) (f201)))); (try (have i_t157 := Imp.go t157 (f175))); (try (have i_t33 := Imp.go t33 (imp_a (rgz30.1) (rgz30.2) (f129)))); omega) | ((try (have i_t180 := Imp.go t180 (by omega))); (try (have i_t179 := Imp.go t179 (by omega))); (try (have i_t157 := Imp.go t157 (by omega))); (try (have i_t156 := Imp.go t156 (by omega))); first | omega | ((try (have i_t34 := Imp.go t34 (by omega))); (try (have i_t33 := Imp.go t33 (by omega))); (try (have i_t33 := Imp.go t33 (by omega))); (try (have i_t34 := Imp.go t34 (by omega))); first | omega | ((try (have i_t156 := Imp.go t156 (by omega))); (try (have i_t157 := Imp.go t157 (by omega))); (try (have i_t179 := Imp.go t179 (by omega))); (try (have i_t180 := Imp.go t180 (by omega))); omega))))) (by first | exact om_9e7d2b874257 hn hz205 | first | omega | ((try (have i_t179 := Imp.go t179 (imp_a (rgz176.1) (rgz176.2) (f201)))); (try (have i_t157 := Imp.go t157 (f175))); (try (have i_t33 := Imp.go t33 (imp_a (rgz30.1) (rgz30.2) (f129)))); omega) | ((try (have i_t180 := Imp.go t180 (by omega))); (try (have i_t179 := Imp.go t179 (by omega))); (try (have i_t157 := Imp.go t157 (by omega))); (try (have i_t156 := Imp.go t156 (by omega))); first | omega | ((try (have i_t34 := Imp.go t34 (by omega))); (try (have i_t33 := Imp.go t33 (by omega))); (try (have i_t33 := Imp.go t33 (by omega))); (try (have i_t34 := Imp.go t34 (by omega))); first | omega | ((try (have i_t156 := Imp.go t156 (by omega))); (try (have i_t157 := Imp.go t157 (by omega))); (try (have i_t179 := Imp.go t179 (by omega))); (try (have i_t180 := Imp.go t180 (by omega))); omega)))) hP hD hS (lv_sub hl [1, 2, 3, 0, 4, 5] rfl)
                        · skip
                          have f207 : z202.toInt < 12 := b_nle (by decide) rfl c203
                          refine lv_ldc2 (v := 37) hx hb hown (hg _ w1699) dX12_cutAll_111 ?_
                          refine lv_lload hx hb dX12_cutAll_114 (lv_at hl 0 rfl) ?_
                          refine lv_lmul hx hb dX12_cutAll_116 ?_
                          refine lv_topl (fun w208 ew208 => ?_)
                          refine lv_aload_n hx hb dX12_cutAll_117 rfl (lv_at hl 5 rfl) ?_
                          refine va_get (D := D) (ci := 12) (v := .ref (ad 1)) (C := RX12) (T := TX12) (N := 100) hx hb hg inX12 hown hK hP 0 rfl rfl 1 (by decide) (hg _ w1707) (fun _ h9 => h9) rfl dX12_cutAll_118 ?_
                          refine lv_iload_n hx hb dX12_cutAll_121 rfl (lv_at hl 3 rfl) ?_
                          refine va_iald (D := D) (i := y131) hx hb hK hP 1 0 rfl rfl (i_in (a := y131.toInt) rfl (by first | exact om_f319e852899e r1.2 klp8_0.1 xlp132_0 f152 | first | omega | ((try (have i_t179 := Imp.go t179 (imp_a (rgz176.1) (rgz176.2) (f201)))); (try (have i_t157 := Imp.go t157 (f175))); (try (have i_t33 := Imp.go t33 (imp_a (rgz30.1) (rgz30.2) (f129)))); omega) | ((try (have i_t180 := Imp.go t180 (by omega))); (try (have i_t179 := Imp.go t179 (by omega))); (try (have i_t157 := Imp.go t157 (by omega))); (try (have i_t156 := Imp.go t156 (by omega))); first | omega | ((try (have i_t34 := Imp.go t34 (by omega))); (try (have i_t33 := Imp.go t33 (by omega))); (try (have i_t33 := Imp.go t33 (by omega))); (try (have i_t34 := Imp.go t34 (by omega))); first | omega | ((try (have i_t156 := Imp.go t156 (by omega))); (try (have i_t157 := Imp.go t157 (by omega))); (try (have i_t179 := Imp.go t179 (by omega))); (try (have i_t180 := Imp.go t180 (by omega))); omega))))) dX12_cutAll_122 ?_
                          refine g_top (v := (V 1 (Int32.toNatClampNeg y131))) ((up2_o hV29 (by decide)).trans ((ajV6 1 (Int32.toNatClampNeg y131) rfl).trans ((up2_o hV3 (by decide)).trans (up2_o hV2 (by decide))))) ?_
                          refine gE_int (g_runS (As := [.int (V 1 (Int32.toNatClampNeg y131))]) (rest := [.long w208]) (wc := []) (tc := []) hx hb hml hown hg gw_self hP hD hK hS hA hnw hgk [] [] (by decide) rfl rfl (s_rank2 l D ks H.size (V 1 (Int32.toNatClampNeg y131)) ) w1700 w1701 w172 w1702 hdS_yX12_rank ⟨Nat.le_of_ble_eq_true rfl, Nat.le_of_ble_eq_true rfl⟩ rfl hl.1 rfl (Nat.le_of_ble_eq_true rfl) dX12_cutAll_123 ⟨Nat.le_of_ble_eq_true rfl, Nat.le_of_ble_eq_true rfl⟩) hP hD hK hS hA (fun z209 u210 H locs w211 hP hD hK hS => ?_)
                          have t212 := w211
                          have t212 : z209 = (if 97 ≤ ((V 1 (Int32.toNatClampNeg y131))).toInt ∧ ((V 1 (Int32.toNatClampNeg y131))).toInt ≤ 122 then (V 1 (Int32.toNatClampNeg y131)) - 96 else (V 1 (Int32.toNatClampNeg y131)) - 21) := t212
                          refine lv_i2l hx hb dX12_cutAll_126 rfl ?_
                          refine lv_topl (fun w213 ew213 => ?_)
                          refine lv_ladd hx hb dX12_cutAll_127 ?_
                          refine lv_topl (fun w214 ew214 => ?_)
                          refine lv_goto (tgt := 133) hx hb dX12_cutAll_128 (by decide) ?_
                          refine lv_lstore (lv' := [(5, .long w214), (4, .int y4), (3, .int (V 1 (Int32.toNatClampNeg y4))), (2, .int y131), (1, .int y5), (0, .ref (ad 0))]) hx hb dX12_cutAll_133 hl (by decide) rfl (fun ls hl => ?_)
                          obtain ⟨z215, ez215⟩ : ∃ y : Int32, y = y131 + 1 := ⟨_, rfl⟩
                          have hz215 : z215.toInt = y131.toInt + 1 := i_add ez215 rfl (by decide) (by (first | exact om_cf147208ce66 r1.2 klp8_0.1 xlp132_0 f152 | omega))
                          refine lv_iinc (v := z215) (lv' := [(2, .int z215), (5, .long w214), (4, .int y4), (3, .int (V 1 (Int32.toNatClampNeg y4))), (1, .int y5), (0, .ref (ad 0))]) hx hb dX12_cutAll_135 hl (k := 3) rfl (by rw [ez215]; rfl) (by decide) rfl (fun ls hl => ?_)
                          refine lv_goto (tgt := 70) hx hb dX12_cutAll_138 (by decide) ?_
                          have kz216 := i_clamp (x := y131) rfl (by (first | exact om_12cf676bc652 klp8_0.1 xlp132_0 | omega))
                          have hld : isLD (V 1 (Int32.toNatClampNeg y131)) := Or.inr (Imp.go t179 (by (first | exact om_2ebe32d50835 rgz176.1 rgz176.2 f201 | omega)))
                          exact ihlp132 w214 z215 H locs ls (by first | exact om_324fc6cf93cf r1.2 klp8_0.1 xlp132_0 f152 hz215 | first | omega | ((try (have i_t179 := Imp.go t179 (imp_a (rgz176.1) (rgz176.2) (f201)))); (try (have i_t157 := Imp.go t157 (f175))); (try (have i_t33 := Imp.go t33 (imp_a (rgz30.1) (rgz30.2) (f129)))); omega) | ((try (have i_t180 := Imp.go t180 (by omega))); (try (have i_t179 := Imp.go t179 (by omega))); (try (have i_t157 := Imp.go t157 (by omega))); (try (have i_t156 := Imp.go t156 (by omega))); first | omega | ((try (have i_t34 := Imp.go t34 (by omega))); (try (have i_t33 := Imp.go t33 (by omega))); (try (have i_t33 := Imp.go t33 (by omega))); (try (have i_t34 := Imp.go t34 (by omega))); first | omega | ((try (have i_t156 := Imp.go t156 (by omega))); (try (have i_t157 := Imp.go t157 (by omega))); (try (have i_t179 := Imp.go t179 (by omega))); (try (have i_t180 := Imp.go t180 (by omega))); omega)))) (show y4.toInt ≤ z215.toInt from by first | exact om_f75a30b4c815 xlp132_0 hz215 | first | omega | ((try (have i_t179 := Imp.go t179 (imp_a (rgz176.1) (rgz176.2) (f201)))); (try (have i_t157 := Imp.go t157 (f175))); (try (have i_t33 := Imp.go t33 (imp_a (rgz30.1) (rgz30.2) (f129)))); omega) | ((try (have i_t180 := Imp.go t180 (by omega))); (try (have i_t179 := Imp.go t179 (by omega))); (try (have i_t157 := Imp.go t157 (by omega))); (try (have i_t156 := Imp.go t156 (by omega))); first | omega | ((try (have i_t34 := Imp.go t34 (by omega))); (try (have i_t33 := Imp.go t33 (by omega))); (try (have i_t33 := Imp.go t33 (by omega))); (try (have i_t34 := Imp.go t34 (by omega))); first | omega | ((try (have i_t156 := Imp.go t156 (by omega))); (try (have i_t157 := Imp.go t157 (by omega))); (try (have i_t179 := Imp.go t179 (by omega))); (try (have i_t180 := Imp.go t180 (by omega))); omega)))) (show z215.toInt ≤ (V29 0 3).toInt from by first | exact om_79347f38c257 pq133 f152 hz215 | first | omega | ((try (have i_t179 := Imp.go t179 (imp_a (rgz176.1) (rgz176.2) (f201)))); (try (have i_t157 := Imp.go t157 (f175))); (try (have i_t33 := Imp.go t33 (imp_a (rgz30.1) (rgz30.2) (f129)))); omega) | ((try (have i_t180 := Imp.go t180 (by omega))); (try (have i_t179 := Imp.go t179 (by omega))); (try (have i_t157 := Imp.go t157 (by omega))); (try (have i_t156 := Imp.go t156 (by omega))); first | omega | ((try (have i_t34 := Imp.go t34 (by omega))); (try (have i_t33 := Imp.go t33 (by omega))); (try (have i_t33 := Imp.go t33 (by omega))); (try (have i_t34 := Imp.go t34 (by omega))); first | omega | ((try (have i_t156 := Imp.go t156 (by omega))); (try (have i_t157 := Imp.go t157 (by omega))); (try (have i_t179 := Imp.go t179 (by omega))); (try (have i_t180 := Imp.go t180 (by omega))); omega)))) (fun k a b => by by_cases c : (k : Int) < y131.toInt; exact xlp132_2 k a c; have ek : k = Int32.toNatClampNeg y131 := (by first | omega | ((try (have i_t179 := Imp.go t179 (imp_a (rgz176.1) (rgz176.2) (f201)))); (try (have i_t157 := Imp.go t157 (f175))); (try (have i_t33 := Imp.go t33 (imp_a (rgz30.1) (rgz30.2) (f129)))); omega) | ((try (have i_t180 := Imp.go t180 (by omega))); (try (have i_t179 := Imp.go t179 (by omega))); (try (have i_t157 := Imp.go t157 (by omega))); (try (have i_t156 := Imp.go t156 (by omega))); first | omega | ((try (have i_t34 := Imp.go t34 (by omega))); (try (have i_t33 := Imp.go t33 (by omega))); (try (have i_t33 := Imp.go t33 (by omega))); (try (have i_t34 := Imp.go t34 (by omega))); first | omega | ((try (have i_t156 := Imp.go t156 (by omega))); (try (have i_t157 := Imp.go t157 (by omega))); (try (have i_t179 := Imp.go t179 (by omega))); (try (have i_t180 := Imp.go t180 (by omega))); omega)))); rw [ek]; exact hld) (fun h9 => by rw [show (z215.toInt - y4.toInt).toNat = (y131.toInt - y4.toInt).toNat + 1 from by first | omega | ((try (have i_t179 := Imp.go t179 (imp_a (rgz176.1) (rgz176.2) (f201)))); (try (have i_t157 := Imp.go t157 (f175))); (try (have i_t33 := Imp.go t33 (imp_a (rgz30.1) (rgz30.2) (f129)))); omega) | ((try (have i_t180 := Imp.go t180 (by omega))); (try (have i_t179 := Imp.go t179 (by omega))); (try (have i_t157 := Imp.go t157 (by omega))); (try (have i_t156 := Imp.go t156 (by omega))); first | omega | ((try (have i_t34 := Imp.go t34 (by omega))); (try (have i_t33 := Imp.go t33 (by omega))); (try (have i_t33 := Imp.go t33 (by omega))); (try (have i_t34 := Imp.go t34 (by omega))); first | omega | ((try (have i_t156 := Imp.go t156 (by omega))); (try (have i_t157 := Imp.go t157 (by omega))); (try (have i_t179 := Imp.go t179 (by omega))); (try (have i_t180 := Imp.go t180 (by omega))); omega))), wv_s, ← xlp132_3 (by first | omega | ((try (have i_t179 := Imp.go t179 (imp_a (rgz176.1) (rgz176.2) (f201)))); (try (have i_t157 := Imp.go t157 (f175))); (try (have i_t33 := Imp.go t33 (imp_a (rgz30.1) (rgz30.2) (f129)))); omega) | ((try (have i_t180 := Imp.go t180 (by omega))); (try (have i_t179 := Imp.go t179 (by omega))); (try (have i_t157 := Imp.go t157 (by omega))); (try (have i_t156 := Imp.go t156 (by omega))); first | omega | ((try (have i_t34 := Imp.go t34 (by omega))); (try (have i_t33 := Imp.go t33 (by omega))); (try (have i_t33 := Imp.go t33 (by omega))); (try (have i_t34 := Imp.go t34 (by omega))); first | omega | ((try (have i_t156 := Imp.go t156 (by omega))); (try (have i_t157 := Imp.go t157 (by omega))); (try (have i_t179 := Imp.go t179 (by omega))); (try (have i_t180 := Imp.go t180 (by omega))); omega)))), show y4.toInt.toNat + (y131.toInt - y4.toInt).toNat = Int32.toNatClampNeg y131 from by first | omega | ((try (have i_t179 := Imp.go t179 (imp_a (rgz176.1) (rgz176.2) (f201)))); (try (have i_t157 := Imp.go t157 (f175))); (try (have i_t33 := Imp.go t33 (imp_a (rgz30.1) (rgz30.2) (f129)))); omega) | ((try (have i_t180 := Imp.go t180 (by omega))); (try (have i_t179 := Imp.go t179 (by omega))); (try (have i_t157 := Imp.go t157 (by omega))); (try (have i_t156 := Imp.go t156 (by omega))); first | omega | ((try (have i_t34 := Imp.go t34 (by omega))); (try (have i_t33 := Imp.go t33 (by omega))); (try (have i_t33 := Imp.go t33 (by omega))); (try (have i_t34 := Imp.go t34 (by omega))); first | omega | ((try (have i_t156 := Imp.go t156 (by omega))); (try (have i_t157 := Imp.go t157 (by omega))); (try (have i_t179 := Imp.go t179 (by omega))); (try (have i_t180 := Imp.go t180 (by omega))); omega)))]; exact ew214.trans (by rw [ew208, ew213, t212, rk_cd hld, Int64.mul_comm])) (by first | exact om_9e7d2b874257 hn hz215 | first | omega | ((try (have i_t179 := Imp.go t179 (imp_a (rgz176.1) (rgz176.2) (f201)))); (try (have i_t157 := Imp.go t157 (f175))); (try (have i_t33 := Imp.go t33 (imp_a (rgz30.1) (rgz30.2) (f129)))); omega) | ((try (have i_t180 := Imp.go t180 (by omega))); (try (have i_t179 := Imp.go t179 (by omega))); (try (have i_t157 := Imp.go t157 (by omega))); (try (have i_t156 := Imp.go t156 (by omega))); first | omega | ((try (have i_t34 := Imp.go t34 (by omega))); (try (have i_t33 := Imp.go t33 (by omega))); (try (have i_t33 := Imp.go t33 (by omega))); (try (have i_t34 := Imp.go t34 (by omega))); first | omega | ((try (have i_t156 := Imp.go t156 (by omega))); (try (have i_t157 := Imp.go t157 (by omega))); (try (have i_t179 := Imp.go t179 (by omega))); (try (have i_t180 := Imp.go t180 (by omega))); omega)))) hP hD hS (lv_sub hl [1, 2, 3, 0, 4, 5] rfl)
              have pq217 : (V29 0 3).toInt = ((V 0 2)).toInt := congrArg Int32.toInt ((up2_o hV29 (by decide)).trans ((ajV6 0 3 rfl).trans ((up2_k hV3 (by decide)).trans (up2_s hV2))))
              exact lp132 (((V29 0 3).toInt - y4.toInt + 1 : Int).toNat) 0 y4 H locs ls (by first | exact om_fb8e2a868ece r1.2 klp8_0.1 f21 | first | omega | ((try (have i_t34 := Imp.go t34 (by omega))); (try (have i_t33 := Imp.go t33 (by omega))); (try (have i_t33 := Imp.go t33 (by omega))); (try (have i_t34 := Imp.go t34 (by omega))); omega)) (show y4.toInt ≤ y4.toInt from by first | exact om_5977f3d8a10f | first | omega | ((try (have i_t34 := Imp.go t34 (by omega))); (try (have i_t33 := Imp.go t33 (by omega))); (try (have i_t33 := Imp.go t33 (by omega))); (try (have i_t34 := Imp.go t34 (by omega))); omega)) (show y4.toInt ≤ (V29 0 3).toInt from by first | exact om_2c59d391d7ea f21 pq217 | first | omega | ((try (have i_t34 := Imp.go t34 (by omega))); (try (have i_t33 := Imp.go t33 (by omega))); (try (have i_t33 := Imp.go t33 (by omega))); (try (have i_t34 := Imp.go t34 (by omega))); omega)) (fun k a b => absurd a (by omega)) (fun _ => by rw [show (y4.toInt - y4.toInt).toNat = 0 from by omega]; rfl) (by first | exact om_7441a7786481 | first | omega | ((try (have i_t34 := Imp.go t34 (by omega))); (try (have i_t33 := Imp.go t33 (by omega))); (try (have i_t33 := Imp.go t33 (by omega))); (try (have i_t34 := Imp.go t34 (by omega))); omega)) hP hD hS (lv_sub hl [0, 1, 2, 3, 4, 5] rfl)
          · skip
            have f218 : ((V 1 (Int32.toNatClampNeg y4))).toInt = 32 := b_eq rfl (by decide) c27
            obtain ⟨z219, ez219⟩ : ∃ y : Int32, y = y4 + 1 := ⟨_, rfl⟩
            have hz219 : z219.toInt = y4.toInt + 1 := i_add ez219 rfl (by decide) (by (first | exact om_60388b098aab r1.2 klp8_0.1 f21 | omega))
            refine lv_iinc (v := z219) (lv' := [(2, .int z219), (3, .int (V 1 (Int32.toNatClampNeg y4))), (1, .int y5), (0, .ref (ad 0))]) hx hb dX12_cutAll_44 hl (k := 1) rfl (by rw [ez219]; rfl) (by decide) rfl (fun ls hl => ?_)
            refine lv_goto (tgt := 17) hx hb dX12_cutAll_47 (by decide) ?_
            have kz220 := i_clamp (x := y4) rfl (by (first | exact om_eafa9039069c klp8_0.1 | omega))
            have ez : y4.toInt.toNat = Int32.toNatClampNeg y4 := by (first | exact om_14d446f7993c klp8_0.1 kz220 | omega)
            exact ihlp8 z219 y5 V6 L7 H locs ls (by (first | exact om_e23ddeb43246 r1.2 klp8_0.1 f21 hz219 | omega)) (by (first | exact om_c1fa050e69fd r1.2 klp8_1.1 xlp8_0 f21 | omega)) (show y5.toInt ≤ z219.toInt from by (first | exact om_f75a30b4c815 xlp8_0 hz219 | omega)) (show z219.toInt ≤ (V6 0 3).toInt from by (first | exact om_79347f38c257 pq9 f21 hz219 | omega)) (RTq.bl xlp8_2 (by omega) (by omega) (by rw [ez]; unfold isBl; omega)) (by (first | exact om_9e7d2b874257 hn hz219 | omega)) alL7 (agr.tr agr.rf ajV6 (by decide) (by decide)) hMV6 hP hD hS (lv_sub hl [0, 2, 3] rfl)
  have r221 : Int32.toInt 0 = 0 := by decide
  have pq222 : (V3 0 3).toInt = ((V 0 2)).toInt := congrArg Int32.toInt ((up2_k hV3 (by decide)).trans (up2_s hV2))
  exact lp8 (((V3 0 3).toInt - (Int32.toInt 0) + 1 : Int).toNat) 0 0 V3 L H locs ls (by decide) (by decide) (show (Int32.toInt 0) ≤ (Int32.toInt 0) from by (first | exact om_5977f3d8a10f | omega)) (show (Int32.toInt 0) ≤ (V3 0 3).toInt from by (first | exact om_ff3fc84f1c65 r1.1 r221 pq222 | omega)) (RTq.z) (by (first | exact om_7441a7786481 | omega)) alL agr.rf hMV3 hP hD hS (lv_sub hl [0, 1, 2] rfl)
end
section
/-! both readers hold the same tokens -/
theorem wv_ex {f g : Nat → Int32} {s : Nat} (l : Nat) : (∀ k, s ≤ k → k < s + l → f k = g k) → wv f s l = wv g s l := by
  induction l with
  | zero => intro _; rfl
  | succ l ih =>
    intro h
    rw [wv_s, wv_s, ih (fun k a b => h k a (by omega)), h (s + l) (by omega) (by omega)]
theorem nv_ex {f g : Nat → Int32} {s : Nat} (l : Nat) : (∀ k, s ≤ k → k < s + l → f k = g k) → nv f s l = nv g s l := by
  induction l with
  | zero => intro _; rfl
  | succ l ih =>
    intro h
    rw [nv_s, nv_s, ih (fun k a b => h k a (by omega)), h (s + l) (by omega) (by omega)]
/-- what stands for a word: a name, or keyword k -/
def KN (w : Int64) (x : Int) : Prop := (x = 3 ∧ ∀ k : Nat, k < 28 → kg 155 k ≠ w) ∨ ∃ k : Nat, k < 28 ∧ x = 128 + (k : Int) ∧ kg 155 k = w
theorem KW.kn {L : Lf} {w : Int64} {x : Int} (h : KW L w x) (hL : ∀ k : Nat, k < 28 → L 11 k = kg 155 k) : KN w x := by
  rcases h with ⟨a, b⟩ | ⟨k, a, b, c⟩
  · exact Or.inl ⟨a, fun k hk => by rw [← hL k hk]; exact b k hk⟩
  · exact Or.inr ⟨k, a, b, by rw [← hL k a]; exact c⟩
/-- the class's kind and value, the reference's sort and word -/
def KR (kd : Int) (vl : Int64) (so : Int) (w : Int64) : Prop := (so = 4 ∧ kd = 1) ∨ (so = 2 ∧ kd = 2 ∧ vl = w) ∨ (so = 1 ∧ KN w kd ∧ vl = w) ∨ (so = 3 ∧ ∃ x : Int32, isSg x ∧ kd = x.toInt ∧ w = x.toInt64)
theorem KR.mk {L : Lf} {f g : Nat → Int32} {n s e : Nat} {kd so : Int} {vl w : Int64} (hL : ∀ k : Nat, k < 28 → L 11 k = kg 155 k) (q : eqB n f g) (te : TE f n s e) (c : TC L f s e kd vl) (r : RCt g s e so w) : KR kd vl so w := by
  have tl := te.lt
  have es : f s = g s := q s (by omega)
  have sl : ∀ k, s ≤ k → k < s + (e - s) → f k = g k := fun k a b => q k (by omega)
  unfold RCt at r
  rw [← es, ← wv_ex _ sl, ← nv_ex _ sl] at r
  rcases te with h | h | h
  · have a := c.1 h.1
    have b := r.1 h.1
    rcases Nat.lt_or_ge 9 (e - s) with z | z
    · exact Or.inl ⟨b.1 z, a.1 z⟩
    · exact Or.inr (Or.inl ⟨(b.2 z).1, (a.2 z).1, by rw [(a.2 z).2, (b.2 z).2]⟩)
  · have a := c.2.1 h.1
    have b := r.2.1 h.1
    rcases Nat.lt_or_ge 12 (e - s) with z | z
    · exact Or.inl ⟨b.1 z, a.1 z⟩
    · exact Or.inr (Or.inr (Or.inl ⟨(b.2 z).1, by rw [(b.2 z).2]; exact (a.2 z).1.kn hL, by rw [(a.2 z).2, (b.2 z).2]⟩))
  · have a := c.2.2 h.1 h.2.1
    have b := r.2.2 h.1 h.2.1
    rcases a with a | a
    · rcases b.1 with d | d
      · exact Or.inr (Or.inr (Or.inr ⟨d.2, f s, a.1, a.2, b.2⟩))
      · exact absurd a.1 d.1
    · rcases b.1 with d | d
      · exact absurd d.1 a.1
      · exact Or.inl ⟨d.2, a.2⟩
theorem sg_rg {x : Int32} (h : isSg x) : 40 ≤ x.toInt ∧ x.toInt ≤ 125 := by
  obtain ⟨i, hi, e⟩ := h
  have z := sg_all i hi
  rw [e] at z
  omega
theorem i64_inj {x y : Int32} (h : x.toInt64 = y.toInt64) : x = y := Int32.toInt_inj.mp (by
  have z := congrArg Int64.toInt h
  rw [Int32.toInt_toInt64, Int32.toInt_toInt64] at z
  exact z)
theorem KR.rg {kd : Int} {vl : Int64} {so : Int} {w : Int64} (h : KR kd vl so w) : 1 ≤ kd ∧ kd ≤ 155 ∧ 1 ≤ so ∧ so ≤ 4 := by
  rcases h with h | h | ⟨a, h, _⟩ | ⟨a, x, h, b, _⟩
  · omega
  · omega
  · rcases h with h | ⟨k, h1, h2, _⟩
    · omega
    · omega
  · have z := sg_rg h
    omega
/-- a sign -/
theorem KR.sg {kd : Int} {vl : Int64} {so : Int} {w : Int64} (h : KR kd vl so w) {c : Int32} (hc : isSg c) : (so = 3 ∧ w = c.toInt64) ↔ kd = c.toInt := by
  have zc := sg_rg hc
  rcases h with h | h | ⟨a, h, _⟩ | ⟨a, x, h, b, d⟩
  · exact ⟨fun q => by omega, fun q => by omega⟩
  · exact ⟨fun q => by omega, fun q => by omega⟩
  · exact ⟨fun q => by omega, fun q => by
      rcases h with h | ⟨k, h1, h2, _⟩
      · omega
      · omega⟩
  · refine ⟨fun q => ?_, fun q => ⟨a, ?_⟩⟩
    · have z := i64_inj (d.symm.trans q.2)
      rw [b, z]
    · rw [d, Int32.toInt_inj.mp (b.symm.trans q)]
/-- a keyword -/
theorem KR.kw {kd : Int} {vl : Int64} {so : Int} {w : Int64} (h : KR kd vl so w) {k : Nat} (hk : k < 28) : (so = 1 ∧ w = kg 155 k) ↔ kd = 128 + (k : Int) := by
  rcases h with h | h | ⟨a, h, _⟩ | ⟨a, x, h, b, d⟩
  · exact ⟨fun q => by omega, fun q => by omega⟩
  · exact ⟨fun q => by omega, fun q => by omega⟩
  · rcases h with ⟨h, n⟩ | ⟨j, h1, h2, h3⟩
    · exact ⟨fun q => absurd q.2.symm (n k hk), fun q => by omega⟩
    · refine ⟨fun q => ?_, fun q => ⟨a, ?_⟩⟩
      · by_cases e : j = k
        · rw [h2, e]
        · exact absurd (h3.trans q.2) (kg_ne j h1 k hk e)
      · have e : j = k := by omega
        rw [← h3, e]
  · have z := sg_rg h
    exact ⟨fun q => by omega, fun q => by omega⟩
/-- a name -/
theorem KR.nm {kd : Int} {vl : Int64} {so : Int} {w : Int64} (h : KR kd vl so w) : (so = 1 ∧ ∀ k : Nat, k < 28 → w ≠ kg 155 k) ↔ kd = 3 := by
  rcases h with h | h | ⟨a, h, _⟩ | ⟨a, x, h, b, d⟩
  · exact ⟨fun q => by omega, fun q => by omega⟩
  · exact ⟨fun q => by omega, fun q => by omega⟩
  · rcases h with ⟨h, n⟩ | ⟨j, h1, h2, h3⟩
    · exact ⟨fun _ => h, fun _ => ⟨a, fun k hk e => n k hk e.symm⟩⟩
    · exact ⟨fun q => absurd h3.symm (q.2 j h1), fun q => by omega⟩
  · have z := sg_rg h
    exact ⟨fun q => by omega, fun q => by omega⟩
/-- a number -/
theorem KR.nb {kd : Int} {vl : Int64} {so : Int} {w : Int64} (h : KR kd vl so w) : so = 2 ↔ kd = 2 := by
  rcases h with h | h | ⟨a, h, _⟩ | ⟨a, x, h, b, d⟩
  · exact ⟨fun q => by omega, fun q => by omega⟩
  · exact ⟨fun _ => h.2.1, fun _ => h.1⟩
  · rcases h with ⟨h, n⟩ | ⟨j, h1, h2, h3⟩
    · exact ⟨fun q => by omega, fun q => by omega⟩
    · exact ⟨fun q => by omega, fun q => by omega⟩
  · have z := sg_rg h
    exact ⟨fun q => by omega, fun q => by omega⟩
theorem KR.vl {kd : Int} {vl : Int64} {so : Int} {w : Int64} (h : KR kd vl so w) (k : kd = 2 ∨ kd = 3) : vl = w := by
  rcases h with h | h | ⟨a, h, e⟩ | ⟨a, x, h, b, d⟩
  · omega
  · exact h.2.2
  · exact e
  · have z := sg_rg h
    omega
/-- both hold the same t tokens, and an end behind them -/
def TKR (W : Vf) (M : Lf) (Wm : Vf) (Mm : Lf) (t : Nat) : Prop := t ≤ 4000 ∧ (W 6 7).toInt = (t : Int) ∧ (∀ j, j < t → (W 13 j).toInt = (Wm 5 j).toInt ∧ KR (W 12 j).toInt (M 14 j) (Wm 4 j).toInt (Mm 6 j)) ∧ (W 12 t).toInt = 0 ∧ (Wm 4 t).toInt = 0 ∧ (W 13 t).toInt = (Wm 5 t).toInt
theorem TKR.mk {V W Vm Wm : Vf} {L M Mm : Lf} (c : CTE V L W M) (r : RTE Vm Wm Mm) (hn : (V 6 5).toInt = (Vm 0 2).toInt) (h0 : 0 ≤ (W 6 7).toInt) (hL : ∀ k : Nat, k < 28 → L 11 k = kg 155 k) (q : eqB (V 6 5).toInt.toNat (V 10) (Vm 1)) : ∃ t, TKR W M Wm Mm t := by
  obtain ⟨⟨S, E, k1, k2⟩, c2, c3, c4, _⟩ := c
  obtain ⟨t, ht, ⟨S', E', m1, m2⟩, r2, r3⟩ := r
  rw [← hn] at m1
  rw [c2] at k1
  have k3 := k1.ex q
  obtain ⟨e1, e2, e3⟩ := k3.uq m1
  refine ⟨t, ht, by omega, fun j hj => ?_, by rw [← e1, c3]; decide, by rw [r2]; decide, by rw [r3, ← e1, c4, hn]⟩
  have hj' : j < (W 6 7).toInt.toNat := by omega
  have a := k2 j hj'
  have b := m2 j hj
  rw [← e3 j hj', ← e2 (j + 1) (by omega)] at b
  exact ⟨by rw [a.1, b.1], KR.mk hL q (k1.2.1 j hj').2.2.2 a.2 b.2⟩
/-! all signs of the tape are of the kinds that a tape takes -/
def allTp (n : Nat) (f : Nat → Int32) : Prop := ∀ k, k < n → isTp (f k)
theorem allTp.wr {s : Int32} {k : Nat} {f : Nat → Int32} (h : allTp k f) : allTp (stp s k) (wrF s k f) := by
  unfold stp wrF
  by_cases c : (s = 10 ∨ (32 ≤ s ∧ s ≤ 126)) ∧ k < 4000
  · rw [if_pos c, if_pos c]
    intro q hq
    show isTp (if q = k then s else f q)
    by_cases e : q = k
    · rw [if_pos e]
      rcases c.1 with a | a
      · exact Or.inl (by rw [a]; decide)
      · have b1 := Int32.le_iff_toInt_le.mp a.1
        have b2 := Int32.le_iff_toInt_le.mp a.2
        exact Or.inr ⟨b1, b2⟩
    · rw [if_neg e]
      exact h q (by omega)
  · rw [if_neg c, if_neg c]
    exact h
theorem allTp.ap (n : Nat) : ∀ (v : Int64) (k : Nat) (f : Nat → Int32), allTp k f → allTp (apk n v k) (apF sgc n v k f) := by
  induction n with
  | zero => intro v k f h; exact h
  | succ n ih => intro v k f h; exact ih v _ _ h.wr
end
section
/-! what a book's tokens mean: a machine with a list of what is still to be read -/
/-- what is to be read: its sort, a number, two bounds, a word, what was listed -/
abbrev It := Nat × Nat × Int × Int × Int64 × List Nat
abbrev Itake (c : Int) : It := (0, 0, c, 0, 0, [])
abbrev Iexpr (d : Nat) : It := (1, d, 0, 0, 0, [])
abbrev Icmp (d : Nat) : It := (2, d, 0, 0, 0, [])
abbrev Isum (d : Nat) : It := (3, d, 0, 0, 0, [])
abbrev IsumR (d : Nat) : It := (4, d, 0, 0, 0, [])
abbrev Iprod (d : Nat) : It := (5, d, 0, 0, 0, [])
abbrev IprodR (d : Nat) : It := (6, d, 0, 0, 0, [])
abbrev Ipart (d : Nat) : It := (7, d, 0, 0, 0, [])
abbrev Inum (lo hi : Int) : It := (8, 0, lo, hi, 0, [])
abbrev Isetting : It := (9, 0, 0, 0, 0, [])
abbrev IofM (d v : Nat) : It := (10, d, (v : Int), 0, 0, [])
abbrev Iword (a : Int) (f : Nat) : It := (11, f, a, 0, 0, [])
abbrev Istmt : It := (12, 0, 0, 0, 0, [])
abbrev InewType : It := (13, 0, 0, 0, 0, [])
abbrev Itypes (c : Int) (w : Int64) (n : Nat) (seen : List Nat) : It := (14, n, c, 0, w, seen)
abbrev IaddTy (w : Int64) (seen : List Nat) : It := (15, 0, 0, 0, w, seen)
abbrev InewSet : It := (16, 0, 0, 0, 0, [])
abbrev IaddSe (w : Int64) (v : Nat) : It := (17, v, 0, 0, w, [])
abbrev InewComp : It := (18, 0, 0, 0, 0, [])
abbrev Iscope (w : Int64) (seen : List Nat) : It := (19, 0, 0, 0, w, seen)
abbrev Icalled (a : Int) (f : Nat) : It := (20, f, a, 0, 0, [])
abbrev Irank (m : Nat) (sc : Int) (w : Int64) (l : List Nat) : It := (21, m, sc, 0, w, l)
abbrev IwhenI (m : Nat) (sc : Int) (w : Int64) (l : List Nat) : It := (22, m, sc, 0, w, l)
abbrev IaddNm (m : Nat) (sc : Int) (w : Int64) (l : List Nat) : It := (23, m, sc, 0, w, l)
abbrev Imember : It := (24, 0, 0, 0, 0, [])
abbrev IneedT (a : Int) : It := (25, 0, a, 0, 0, [])
abbrev IaddNeed (a : Int) (f ca : Nat) : It := (26, f, a, 0, 0, [ca])
abbrev ImethN : It := (27, 0, 0, 0, 0, [])
abbrev IwrapType : It := (28, 0, 0, 0, 0, [])
abbrev IwrapMeth (f : Nat) : It := (29, f, 0, 0, 0, [])
abbrev Iphase (f : Nat) (l : List Nat) : It := (30, f, 0, 0, 0, l)
abbrev IaddWr (f : Nat) (a : Int) (l : List Nat) : It := (31, f, a, 0, 0, l)
abbrev Ilike (w : Int64) : It := (32, 0, 0, 0, w, [])
abbrev Imore (c : Int) (w : Int64) (n : Nat) (seen : List Nat) : It := (33, n, c, 0, w, seen)
abbrev IneedK : It := (34, 0, 0, 0, 0, [])
abbrev ItyD (c : Int) (w : Int64) (seen : List Nat) : It := (35, 0, c, 0, w, seen)
abbrev IsetN (w : Int64) : It := (36, 0, 0, 0, w, [])
abbrev IcalledH (m : Nat) (sc : Int) (w : Int64) : It := (37, m, sc, 0, w, [])
abbrev IwordH (m : Nat) (sc : Int) (w : Int64) : It := (38, m, sc, 0, w, [])
abbrev IrankN (m : Nat) (sc : Int) (w : Int64) (l : List Nat) : It := (39, m, sc, 0, w, l)
abbrev IwhenS (m : Nat) (sc : Int) (w : Int64) (l : List Nat) : It := (40, m, sc, 0, w, l)
abbrev IwhenN (m : Nat) (sc : Int) (w : Int64) (l : List Nat) : It := (41, m, sc, 0, w, l)
abbrev Iem (o : Nat) : It := (42, o, 0, 0, 0, [])
abbrev Ipk1 (d : Nat) : It := (43, d, 0, 0, 0, [])
abbrev Ipk2 (d i : Nat) : It := (44, d, 0, 0, 0, [i])
abbrev Ipk3 (i : Nat) : It := (45, i, 0, 0, 0, [])
abbrev IofN (d : Nat) : It := (46, d, 0, 0, 0, [])
abbrev IofE (v m : Nat) : It := (47, v, 0, 0, 0, [m])
abbrev IfailN : It := (48, 0, 0, 0, 0, [])
abbrev IwrN (f m : Nat) : It := (49, f, 0, 0, 0, [m])
/-- the reader's tables: numbers (0 position, 1 needs, 2 opened, 3 closed, 4 where), of the BOOK's content: 10 + i a setting's value, 30 + t a type's set, 60 + 8 * c .. a component's set, scope, called, rank, when, its number, needs, 300 + 32 * c + 4 * j .. a need's type, kind, called), names (0 types, 1 settings, 2 components, 3 methods, 4 words), wraps, methods told -/
abbrev St := (Nat → Nat) × (Nat → List Int64) × List (Nat × Bool) × List Nat
abbrev Tk := (Nat → Int) × (Nat → Int64) × (Nat → Int)
abbrev Cf := (St × List It) ⊕ (Int ⊕ St)
abbrev Crun (s : St) (k : List It) : Cf := .inl (s, k)
abbrev Cbad (f : Int) : Cf := .inr (.inl f)
abbrev Cdone (s : St) : Cf := .inr (.inr s)
def upB (f : Nat → List Int64) (t : Nat) (w : Int64) : Nat → List Int64 := fun k => if k = t then f k ++ [w] else f k
def sN (s : St) (i v : Nat) : St := (upN s.1 i v, s.2)
def sA (s : St) (i : Nat) (w : Int64) : St := (s.1, upB s.2.1 i w, s.2.2)
def sW (s : St) (x : Nat × Bool) : St := (s.1, s.2.1, s.2.2.1 ++ [x], s.2.2.2)
def sT (s : St) (l : List Nat) : St := (s.1, s.2.1, s.2.2.1, l)
def fndI (l : List Int64) (w : Int64) : Option Nat := l.findIdx? (fun x => x == w)
def nx (s : St) (n : Nat) : St := sN s 0 (s.1 0 + n)
/-- numbers held as lengths of lists: 5 how many orders, 100 + 32 * c + m where a METHOD's E begins, + 30 opened's, + 31 closed's (one more than that), 900 + 8 * w .. a wrap's type, method, number, phase, start, 2000 + 3 * i .. an order -/
def nL (s : St) (j : Nat) : Nat := (s.2.1 j).length
def sLl (s : St) (j : Nat) (l : List Int64) : St := (s.1, (fun k => if k = j then l else s.2.1 k), s.2.2)
abbrev sL (s : St) (j n : Nat) : St := sLl s j (List.replicate n (0 : Int64))
def cl (s : St) : Nat := nL s 5
def emL (s : St) (o : Nat) (l : List Int64) (y : Nat) : St := sL (sLl (sL (sL s 5 (cl s + 1)) (2000 + 3 * cl s) o) (2001 + 3 * cl s) l) (2002 + 3 * cl s) y
abbrev emS (s : St) (o x y : Nat) : St := emL s o (List.replicate x (0 : Int64)) y
def ptS (s : St) (i x : Nat) : St := sL s (2001 + 3 * i) x
/-- a PART begins -/
def bgS (s : St) : St := emS (nx s 1) 1 0 0
def wrS (s : St) (m : Nat) (a : Int) (l : List Nat) : St := (s.1, (fun k => if 900 + 8 * s.2.2.1.length ≤ k ∧ k < 908 + 8 * s.2.2.1.length then List.replicate (([l.getD 0 0, m, l.getD 1 0, a.toNat, l.getD 2 0] : List Nat).getD (k - (900 + 8 * s.2.2.1.length)) 0) (0 : Int64) else s.2.1 k), s.2.2.1 ++ [(m, decide (a = 1))], s.2.2.2)
def fl (T : Tk) (s : St) (c : Int) : Cf := Cbad (c + 16 * T.2.2 (s.1 0))
def isTold (s : St) (w : Int64) : Bool := (fndI (s.2.1 0) w).isSome || (fndI (s.2.1 1) w).isSome || (fndI (s.2.1 2) w).isSome
abbrev bgP (T : Tk) (s : St) : Prop := T.1 (s.1 0) = 2 ∨ T.1 (s.1 0) = 143 ∨ T.1 (s.1 0) = 40 ∨ T.1 (s.1 0) = 45 ∨ T.1 (s.1 0) = 144 ∨ T.1 (s.1 0) = 130 ∨ T.1 (s.1 0) = 145 ∨ (T.1 (s.1 0) = 146 ∧ (s.1 4) = 0) ∨ (T.1 (s.1 0) = 147 ∧ (s.1 4) = 2)
def nbrW (T : Tk) (s : St) (j : Nat) (k : Nat × St → Cf) : Cf := match fndI (s.2.1 j) (T.2.1 (s.1 0)) with | some f => k (f, nx s 1) | none => if 20 ≤ (s.2.1 j).length then fl T s 5 else k ((s.2.1 j).length, sA (nx s 1) j (T.2.1 (s.1 0)))
def mthW (T : Tk) (s : St) (j : Nat) (k : Nat × St → Cf) : Cf := if T.1 (s.1 0) ≠ 3 then fl T s 1 else nbrW T s j k
def mTold (s : St) (w : Int64) : Bool := match fndI (s.2.1 3) w with | some f => s.2.2.2.contains f | none => false
def mthN (T : Tk) (s : St) (k : Nat × St → Cf) : Cf := if T.1 (s.1 0) = 3 ∧ mTold s (T.2.1 (s.1 0)) = true then fl T s 3 else mthW T s 3 k
def arounds (l : List (Nat × Bool)) (f : Nat) : Nat := (l.filter (fun x => x.1 == f && x.2)).length
def newN (T : Tk) (s : St) (k : Int64 → Cf) : Cf := if T.1 (s.1 0) ≠ 3 then fl T s 1 else if isTold s (T.2.1 (s.1 0)) then fl T s 3 else k (T.2.1 (s.1 0))
def look (T : Tk) (s : St) (l : List Int64) (k : Nat → Cf) : Cf := if T.1 (s.1 0) ≠ 3 then fl T s 1 else match fndI l (T.2.1 (s.1 0)) with | none => fl T s 2 | some f => k f
def partW (T : Tk) (s : St) (d : Nat) (k : List It) : Cf :=
  if T.1 (s.1 0) = 2 then Crun (emL (bgS s) 2 [T.2.1 (s.1 0)] 0) k
  else if T.1 (s.1 0) = 143 then Crun (bgS s) (Iem 3 :: k)
  else if T.1 (s.1 0) = 40 then Crun (bgS s) (Iexpr (d + 1) :: Itake 41 :: k)
  else if T.1 (s.1 0) = 45 then Crun (bgS s) (Ipart (d + 1) :: Iem 4 :: k)
  else if T.1 (s.1 0) = 144 then Crun (bgS s) (IfailN :: k)
  else if T.1 (s.1 0) = 130 then Crun (bgS s) (Isetting :: k)
  else if T.1 (s.1 0) = 145 then Crun (bgS s) (Itake 40 :: Iexpr (d + 1) :: Itake 44 :: Ipk1 (d + 1) :: k)
  else if T.1 (s.1 0) = 146 then Crun (bgS s) (IofN (d + 1) :: k)
  else Crun (bgS s) (Itake 40 :: Iexpr (d + 1) :: Itake 41 :: Iem 15 :: k)
def stmtW (T : Tk) (s : St) (k : List It) : Cf :=
  if T.1 (s.1 0) = 0 then Cdone s
  else if T.1 (s.1 0) = 128 then (if 24 ≤ (s.2.1 0).length then fl T s 5 else Crun (nx s 1) (InewType :: k))
  else if T.1 (s.1 0) = 130 then (if 12 ≤ (s.2.1 1).length then fl T s 5 else Crun (nx s 1) (InewSet :: k))
  else if T.1 (s.1 0) = 131 then (if 24 ≤ (s.2.1 2).length then fl T s 5 else Crun (nx s 1) (InewComp :: k))
  else if T.1 (s.1 0) = 136 then (if 12 ≤ s.2.2.1.length then fl T s 5 else Crun (nx s 1) (IwrapType :: k))
  else fl T s 1
def memberW (T : Tk) (s : St) (k : List It) : Cf :=
  if T.1 (s.1 0) = 125 then Crun (nx s 1) (Istmt :: k)
  else if T.1 (s.1 0) = 137 then (if 8 ≤ (s.1 1) then fl T s 5 else Crun (nx s 1) (IneedK :: k))
  else if T.1 (s.1 0) = 140 then (if (s.1 2) = 1 then fl T s 1 else Crun (sL (nx (sN s 2 1) 1) (100 + 32 * ((s.2.1 2).length - 1) + 30) (cl s + 1)) (Iexpr 0 :: Iem 0 :: Itake 59 :: Imember :: k))
  else if T.1 (s.1 0) = 141 then (if (s.1 3) = 1 then fl T s 1 else Crun (sL (nx (sN s 3 1) 1) (100 + 32 * ((s.2.1 2).length - 1) + 31) (cl s + 1)) (Iexpr 0 :: Iem 0 :: Itake 59 :: Imember :: k))
  else if T.1 (s.1 0) = 142 then Crun (nx s 1) (ImethN :: Iexpr 0 :: Iem 0 :: Itake 59 :: Imember :: k)
  else fl T s 1
/-- the types' sets together -/
def msk (f : Nat → Nat) (l : List Nat) : Nat := l.foldr (fun t m => f (30 + t) ||| m) 0
def tyS (s : St) (w : Int64) (seen : List Nat) : St := (upN s.1 (30 + (s.2.1 0).length) (msk s.1 seen ||| 2 ^ (s.2.1 0).length), upB s.2.1 0 w, s.2.2)
def seS (s : St) (w : Int64) (v : Nat) : St := (upN s.1 (10 + (s.2.1 1).length) v, upB s.2.1 1 w, s.2.2)
def hvl (m sc : Nat) (l : List Nat) : Nat → Nat
  | 0 => m
  | 1 => sc
  | 2 => l.getD 3 0
  | 3 => l.getD 2 0
  | 4 => l.getD 1 0
  | 5 => l.getD 0 0
  | _ => 0
def hdr (f : Nat → Nat) (c m sc : Nat) (l : List Nat) : Nat → Nat := fun i => if 60 + 8 * c ≤ i ∧ i < 68 + 8 * c then hvl m sc l (i - (60 + 8 * c)) else f i
def nmS (s : St) (m : Nat) (sc : Int) (w : Int64) (l : List Nat) : St := (hdr s.1 (s.2.1 2).length m sc.toNat l, upB s.2.1 2 w, s.2.2)
def ndf (g : Nat → Nat) (c a f ca : Nat) : Nat → Nat := fun i => if i = 1 ∨ i = 66 + 8 * c then g 1 + 1 else if i = 300 + 32 * c + 4 * g 1 then f else if i = 301 + 32 * c + 4 * g 1 then a else if i = 302 + 32 * c + 4 * g 1 then ca else g i
def ndS (s : St) (a : Int) (f ca : Nat) : St := (ndf s.1 ((s.2.1 2).length - 1) a.toNat f ca, s.2)
/-- a number within bounds -/
def numW (T : Tk) (s : St) (lo hi : Int) (k : Nat → Cf) : Cf := if T.1 (s.1 0) ≠ 2 then fl T s 1 else if (T.2.1 (s.1 0)).toInt < lo ∨ hi < (T.2.1 (s.1 0)).toInt then fl T s 4 else k (T.2.1 (s.1 0)).toInt.toNat
def scopeS (s : St) : St := sT (sN (sN (sN (sN (nx s 1) 1 0) 2 0) 3 0) 4 0) []
def itW (T : Tk) (s : St) (k : List It) (i : It) : Cf := match i with
  | (0, _, c, _, _, _) => if T.1 (s.1 0) = c then Crun (nx s 1) k else fl T s 1
  | (1, d, _, _, _, _) => Crun s (Isum d :: Icmp d :: k)
  | (2, d, _, _, _, _) => if T.1 (s.1 0) = 60 ∨ T.1 (s.1 0) = 61 then Crun (nx s 1) (Isum d :: Iem (if T.1 (s.1 0) = 60 then 8 else 9) :: k) else Crun s k
  | (3, d, _, _, _, _) => Crun s (Iprod d :: IsumR d :: k)
  | (4, d, _, _, _, _) => if T.1 (s.1 0) = 43 ∨ T.1 (s.1 0) = 45 then Crun (nx s 1) (Iprod d :: Iem (if T.1 (s.1 0) = 43 then 6 else 7) :: IsumR d :: k) else Crun s k
  | (5, d, _, _, _, _) => Crun s (Ipart d :: IprodR d :: k)
  | (6, d, _, _, _, _) => if T.1 (s.1 0) = 42 then Crun (nx s 1) (Ipart d :: Iem 5 :: IprodR d :: k) else Crun s k
  | (7, d, _, _, _, _) => if ¬ bgP T s then fl T s 1 else if 8 ≤ d then fl T s 5 else partW T s d k
  | (8, _, lo, hi, _, _) => if T.1 (s.1 0) ≠ 2 then fl T s 1 else if (T.2.1 (s.1 0)).toInt < lo ∨ hi < (T.2.1 (s.1 0)).toInt then fl T s 4 else Crun (nx s 1) k
  | (9, _, _, _, _, _) => look T s (s.2.1 1) (fun f => Crun (emS (nx s 1) 11 f 0) k)
  | (10, d, v, _, _, _) => mthW T s 3 (fun x => Crun x.2 (Itake 40 :: Iexpr d :: Itake 41 :: IofE v.toNat x.1 :: k))
  | (11, f, a, _, _, _) => mthW T s 4 (fun x => Crun x.2 (Itake 59 :: IaddNeed a f (x.1 + 1) :: Imember :: k))
  | (12, _, _, _, _, _) => stmtW T s k
  | (13, _, _, _, _, _) => newN T s (fun w => Crun (nx s 1) (Ilike w :: k))
  | (14, n, c, _, w, seen) => look T s (s.2.1 0) (fun f => if f ∈ seen then fl T s 3 else if 6 ≤ n then fl T s 5 else Crun (nx s 1) (Imore c w (n + 1) (f :: seen) :: k))
  | (15, _, _, _, w, seen) => Crun (tyS s w seen) k
  | (16, _, _, _, _, _) => newN T s (fun w => Crun (nx s 1) (IsetN w :: k))
  | (17, v, _, _, w, _) => Crun (seS s w v) k
  | (18, _, _, _, _, _) => newN T s (fun w => Crun (nx s 1) (Itake 132 :: Itypes 1 w 0 [] :: k))
  | (19, _, _, _, w, seen) => if T.1 (s.1 0) < 148 ∨ 151 < T.1 (s.1 0) then fl T s 1 else Crun (scopeS s) (IcalledH (msk s.1 seen) (T.1 (s.1 0) - 148) w :: k)
  | (20, f, a, _, _, _) => if T.1 (s.1 0) = 133 then Crun (nx s 1) (Iword a f :: k) else Crun s (Itake 59 :: IaddNeed a f 0 :: Imember :: k)
  | (21, m, sc, _, w, l) => if T.1 (s.1 0) = 134 then Crun (nx s 1) (IrankN m sc w l :: k) else Crun s (IwhenI m sc w (0 :: l) :: k)
  | (22, m, sc, _, w, l) => if T.1 (s.1 0) = 135 then Crun (nx s 1) (IwhenS m sc w l :: k) else Crun s (Itake 123 :: IaddNm m sc w (0 :: 0 :: l) :: Imember :: k)
  | (23, m, sc, _, w, l) => Crun (nmS s m sc w l) k
  | (24, _, _, _, _, _) => memberW T s k
  | (25, _, a, _, _, _) => look T s (s.2.1 0) (fun f => if a = 2 then Crun (nx s 1) (Itake 59 :: IaddNeed a f 0 :: Imember :: k) else Crun (nx s 1) (Icalled a f :: k))
  | (26, f, a, _, _, l) => Crun (ndS s a f (l.headD 0)) k
  | (27, _, _, _, _, _) => mthN T s (fun x => Crun (sL (sT x.2 (x.1 :: s.2.2.2)) (100 + 32 * ((s.2.1 2).length - 1) + x.1) (cl s + 1)) k)
  | (28, _, _, _, _, _) => look T s (s.2.1 0) (fun f => Crun (nx s 1) (Itake 46 :: IwrapMeth f :: k))
  | (29, f, _, _, _, _) => mthW T s 3 (fun x => Crun x.2 (IwrN f x.1 :: k))
  | (30, f, _, _, _, l) => if T.1 (s.1 0) < 152 ∨ 155 < T.1 (s.1 0) then fl T s 1 else if T.1 (s.1 0) = 153 ∧ 2 ≤ arounds s.2.2.1 f then fl T s 5 else Crun (sN (nx s 1) 4 (if T.1 (s.1 0) = 153 then 2 else 1)) (Iexpr 0 :: Iem 0 :: Itake 59 :: IaddWr f (T.1 (s.1 0) - 152) (l ++ [cl s]) :: Istmt :: k)
  | (31, f, a, _, _, l) => Crun (wrS s f a l) k
  | (32, _, _, _, w, _) => if T.1 (s.1 0) = 129 then Crun (nx s 1) (Itypes 0 w 0 [] :: k) else Crun s (Itake 59 :: IaddTy w [] :: Istmt :: k)
  | (33, n, c, _, w, seen) => if T.1 (s.1 0) = 44 then Crun (nx s 1) (Itypes c w n seen :: k) else Crun s (ItyD c w seen :: k)
  | (34, _, _, _, _, _) => if T.1 (s.1 0) = 138 then Crun (nx s 1) (IneedT 1 :: k) else if T.1 (s.1 0) = 139 then Crun (nx s 1) (IneedT 2 :: k) else Crun s (IneedT 0 :: k)
  | (35, _, c, _, w, seen) => if c = 0 then Crun s (Itake 59 :: IaddTy w seen :: Istmt :: k) else Crun s (Iscope w seen :: k)
  | (36, _, _, _, w, _) => numW T s 0 999999999 (fun v => Crun (nx s 1) (Itake 59 :: IaddSe w v :: Istmt :: k))
  | (37, m, sc, _, w, _) => if T.1 (s.1 0) = 133 then Crun (nx s 1) (IwordH m sc w :: k) else Crun s (Irank m sc w [0] :: k)
  | (38, m, sc, _, w, _) => mthW T s 4 (fun x => Crun x.2 (Irank m sc w [x.1 + 1] :: k))
  | (39, m, sc, _, w, l) => numW T s 0 9 (fun v => Crun (nx s 1) (IwhenI m sc w (v :: l) :: k))
  | (40, m, sc, _, w, l) => look T s (s.2.1 1) (fun f => Crun (nx s 1) (IwhenN m sc w ((f + 1) :: l) :: k))
  | (41, m, sc, _, w, l) => numW T s 0 999999999 (fun v => Crun (nx s 1) (Itake 123 :: IaddNm m sc w (v :: l) :: Imember :: k))
  | (42, o, _, _, _, _) => Crun (emS s o 0 0) k
  | (43, d, _, _, _, _) => Crun (emS s 12 0 0) (Iexpr d :: Itake 44 :: Ipk2 d (cl s) :: k)
  | (44, d, _, _, _, l) => Crun (ptS (emS s 13 0 0) (l.headD 0) (cl (emS s 13 0 0))) (Iexpr d :: Itake 41 :: Ipk3 (cl s) :: k)
  | (45, i, _, _, _, _) => Crun (ptS s i (cl s)) k
  | (46, d, _, _, _, _) => numW T s 0 (((s.1 1 : Nat) : Int) - 1) (fun v => Crun (nx s 1) (Itake 46 :: IofM d v :: k))
  | (47, v, _, _, _, l) => Crun (emS s 14 v (l.headD 0)) k
  | (48, _, _, _, _, _) => numW T s 1 9 (fun v => Crun (emS (nx s 1) 10 v 0) k)
  | (49, f, _, _, _, l) => numW T s 0 99 (fun v => Crun (nx s 1) (Iphase (l.headD 0) [f, v] :: k))
  | _ => Crun s k
def mst (T : Tk) : Cf → Cf
  | .inl (s, []) => .inl (s, [])
  | .inl (s, i :: k) => itW T s k i
  | .inr c => .inr c
def mrun (T : Tk) : Nat → Cf → Cf
  | 0, c => c
  | n + 1, c => mrun T n (mst T c)
theorem mrun_s (T : Tk) (n : Nat) (c : Cf) : mrun T (n + 1) c = mrun T n (mst T c) := rfl
theorem mrun_add (T : Tk) (n : Nat) : ∀ (m : Nat) (c : Cf), mrun T (n + m) c = mrun T m (mrun T n c) := by
  induction n with
  | zero => intro m c; rw [Nat.zero_add]; rfl
  | succ n ih => intro m c; rw [Nat.succ_add, mrun_s, ih, mrun_s]
theorem mrun_bad (T : Tk) (f : Int) (n : Nat) : mrun T n (Cbad f) = Cbad f := by
  induction n with
  | zero => rfl
  | succ n ih => rw [mrun_s]; exact ih
theorem mrun_done (T : Tk) (s : St) (n : Nat) : mrun T n (Cdone s) = Cdone s := by
  induction n with
  | zero => rfl
  | succ n ih => rw [mrun_s]; exact ih
def Rc (T : Tk) (a b : Cf) : Prop := ∃ n, mrun T n a = b
theorem Rc.rf {T : Tk} {a : Cf} : Rc T a a := ⟨0, rfl⟩
theorem Rc.st {T : Tk} {a : Cf} : Rc T a (mst T a) := ⟨1, rfl⟩
theorem Rc.tr {T : Tk} {a b c : Cf} (h : Rc T a b) (k : Rc T b c) : Rc T a c := by
  obtain ⟨n, h⟩ := h
  obtain ⟨m, k⟩ := k
  exact ⟨n + m, by rw [mrun_add, h, k]⟩
theorem Rc.one {T : Tk} {a b c : Cf} (e : mst T a = b) (k : Rc T b c) : Rc T a c := Rc.tr ⟨1, e⟩ k
/-- what is at an end is the only end -/
def endC : Cf → Prop
  | .inl _ => False
  | .inr _ => True
theorem mrun_end (T : Tk) {c : Cf} (h : endC c) (n : Nat) : mrun T n c = c := by
  cases c with
  | inl s => exact absurd h (fun q => q)
  | inr s =>
    cases s with
    | inl f => exact mrun_bad T f n
    | inr s => exact mrun_done T s n
theorem Rc.uq {T : Tk} {a b c : Cf} (h : Rc T a b) (k : Rc T a c) (eb : endC b) (ec : endC c) : b = c := by
  obtain ⟨n, h⟩ := h
  obtain ⟨m, k⟩ := k
  rcases Nat.le_total n m with q | q
  · obtain ⟨d, e⟩ := Nat.exists_eq_add_of_le q
    rw [e, mrun_add, h, mrun_end T eb] at k
    exact k
  · obtain ⟨d, e⟩ := Nat.exists_eq_add_of_le q
    rw [e, mrun_add, k, mrun_end T ec] at h
    exact h.symm
/-! its steps -/
section Stp
variable {T : Tk} {s : St} {k : List It}
theorem m_expr (d : Nat) : mst T (Crun s (Iexpr d :: k)) = Crun s (Isum d :: Icmp d :: k) := rfl
theorem m_sum (d : Nat) : mst T (Crun s (Isum d :: k)) = Crun s (Iprod d :: IsumR d :: k) := rfl
theorem m_prod (d : Nat) : mst T (Crun s (Iprod d :: k)) = Crun s (Ipart d :: IprodR d :: k) := rfl
theorem tk_y {c : Int} (h : T.1 (s.1 0) = c) : mst T (Crun s (Itake c :: k)) = Crun (nx s 1) k := if_pos h
theorem tk_n {c : Int} (h : T.1 (s.1 0) ≠ c) : mst T (Crun s (Itake c :: k)) = fl T s 1 := if_neg h
theorem cmp_60 (d : Nat) (h : T.1 (s.1 0) = 60) : mst T (Crun s (Icmp d :: k)) = Crun (nx s 1) (Isum d :: Iem 8 :: k) := (if_pos (Or.inl h)).trans (by rw [if_pos h])
theorem cmp_61 (d : Nat) (h : T.1 (s.1 0) = 61) : mst T (Crun s (Icmp d :: k)) = Crun (nx s 1) (Isum d :: Iem 9 :: k) := (if_pos (Or.inr h)).trans (by rw [if_neg (by rw [h]; decide)])
theorem cmp_n (d : Nat) (h1 : T.1 (s.1 0) ≠ 60) (h2 : T.1 (s.1 0) ≠ 61) : mst T (Crun s (Icmp d :: k)) = Crun s k := if_neg (fun q => q.elim h1 h2)
theorem sumR_43 (d : Nat) (h : T.1 (s.1 0) = 43) : mst T (Crun s (IsumR d :: k)) = Crun (nx s 1) (Iprod d :: Iem 6 :: IsumR d :: k) := (if_pos (Or.inl h)).trans (by rw [if_pos h])
theorem sumR_45 (d : Nat) (h : T.1 (s.1 0) = 45) : mst T (Crun s (IsumR d :: k)) = Crun (nx s 1) (Iprod d :: Iem 7 :: IsumR d :: k) := (if_pos (Or.inr h)).trans (by rw [if_neg (by rw [h]; decide)])
theorem sumR_n (d : Nat) (h1 : T.1 (s.1 0) ≠ 43) (h2 : T.1 (s.1 0) ≠ 45) : mst T (Crun s (IsumR d :: k)) = Crun s k := if_neg (fun q => q.elim h1 h2)
theorem prodR_42 (d : Nat) (h : T.1 (s.1 0) = 42) : mst T (Crun s (IprodR d :: k)) = Crun (nx s 1) (Ipart d :: Iem 5 :: IprodR d :: k) := if_pos h
theorem prodR_n (d : Nat) (h : T.1 (s.1 0) ≠ 42) : mst T (Crun s (IprodR d :: k)) = Crun s k := if_neg h
theorem part_1 (d : Nat) (h : ¬ bgP T s) : mst T (Crun s (Ipart d :: k)) = fl T s 1 := if_pos h
theorem part_5 (d : Nat) (h : bgP T s) (hd : 8 ≤ d) : mst T (Crun s (Ipart d :: k)) = fl T s 5 := (if_neg (fun q => q h)).trans (if_pos hd)
theorem part_w (d : Nat) (h : bgP T s) (hd : ¬ 8 ≤ d) : mst T (Crun s (Ipart d :: k)) = partW T s d k := (if_neg (fun q => q h)).trans (if_neg hd)
theorem pw_2 (d : Nat) (h : bgP T s) (hd : ¬ 8 ≤ d) (c : T.1 (s.1 0) = 2) : mst T (Crun s (Ipart d :: k)) = Crun (emL (bgS s) 2 [T.2.1 (s.1 0)] 0) k := by
  rw [part_w d h hd]; unfold partW; rw [c]; rfl
theorem pw_143 (d : Nat) (h : bgP T s) (hd : ¬ 8 ≤ d) (c : T.1 (s.1 0) = 143) : mst T (Crun s (Ipart d :: k)) = Crun (bgS s) (Iem 3 :: k) := by
  rw [part_w d h hd]; unfold partW; rw [c]; rfl
theorem pw_40 (d : Nat) (h : bgP T s) (hd : ¬ 8 ≤ d) (c : T.1 (s.1 0) = 40) : mst T (Crun s (Ipart d :: k)) = Crun (bgS s) (Iexpr (d + 1) :: Itake 41 :: k) := by
  rw [part_w d h hd]; unfold partW; rw [c]; rfl
theorem pw_45 (d : Nat) (h : bgP T s) (hd : ¬ 8 ≤ d) (c : T.1 (s.1 0) = 45) : mst T (Crun s (Ipart d :: k)) = Crun (bgS s) (Ipart (d + 1) :: Iem 4 :: k) := by
  rw [part_w d h hd]; unfold partW; rw [c]; rfl
theorem pw_144 (d : Nat) (h : bgP T s) (hd : ¬ 8 ≤ d) (c : T.1 (s.1 0) = 144) : mst T (Crun s (Ipart d :: k)) = Crun (bgS s) (IfailN :: k) := by
  rw [part_w d h hd]; unfold partW; rw [c]; rfl
theorem pw_130 (d : Nat) (h : bgP T s) (hd : ¬ 8 ≤ d) (c : T.1 (s.1 0) = 130) : mst T (Crun s (Ipart d :: k)) = Crun (bgS s) (Isetting :: k) := by
  rw [part_w d h hd]; unfold partW; rw [c]; rfl
theorem pw_145 (d : Nat) (h : bgP T s) (hd : ¬ 8 ≤ d) (c : T.1 (s.1 0) = 145) : mst T (Crun s (Ipart d :: k)) = Crun (bgS s) (Itake 40 :: Iexpr (d + 1) :: Itake 44 :: Ipk1 (d + 1) :: k) := by
  rw [part_w d h hd]; unfold partW; rw [c]; rfl
theorem pw_146 (d : Nat) (h : bgP T s) (hd : ¬ 8 ≤ d) (c : T.1 (s.1 0) = 146) : mst T (Crun s (Ipart d :: k)) = Crun (bgS s) (IofN (d + 1) :: k) := by
  rw [part_w d h hd]; unfold partW; rw [c]; rfl
theorem pw_147 (d : Nat) (h : bgP T s) (hd : ¬ 8 ≤ d) (c : T.1 (s.1 0) = 147) : mst T (Crun s (Ipart d :: k)) = Crun (bgS s) (Itake 40 :: Iexpr (d + 1) :: Itake 41 :: Iem 15 :: k) := by
  rw [part_w d h hd]; unfold partW; rw [c]; rfl
theorem se_y {f : Nat} (h : ∀ kk, look T s (s.2.1 1) kk = kk f) : mst T (Crun s (Isetting :: k)) = Crun (emS (nx s 1) 11 f 0) k := h _
theorem se_b {F : Int} (h : ∀ kk, look T s (s.2.1 1) kk = Cbad F) : mst T (Crun s (Isetting :: k)) = Cbad F := h _
theorem me_y {d v : Nat} {x : Nat × St} (h : ∀ kk, mthW T s 3 kk = kk x) : mst T (Crun s (IofM d v :: k)) = Crun x.2 (Itake 40 :: Iexpr d :: Itake 41 :: IofE v x.1 :: k) := (show mthW T s 3 (fun x => Crun x.2 (Itake 40 :: Iexpr d :: Itake 41 :: IofE v x.1 :: k)) = _ from h _)
theorem me_b {d v : Nat} {F : Int} (h : ∀ kk, mthW T s 3 kk = Cbad F) : mst T (Crun s (IofM d v :: k)) = Cbad F := (show mthW T s 3 (fun x => Crun x.2 (Itake 40 :: Iexpr d :: Itake 41 :: IofE v x.1 :: k)) = _ from h _)
theorem m_em (o : Nat) : mst T (Crun s (Iem o :: k)) = Crun (emS s o 0 0) k := rfl
theorem m_pk1 (d : Nat) : mst T (Crun s (Ipk1 d :: k)) = Crun (emS s 12 0 0) (Iexpr d :: Itake 44 :: Ipk2 d (cl s) :: k) := rfl
theorem m_pk2 (d i : Nat) : mst T (Crun s (Ipk2 d i :: k)) = Crun (ptS (emS s 13 0 0) i (cl (emS s 13 0 0))) (Iexpr d :: Itake 41 :: Ipk3 (cl s) :: k) := rfl
theorem m_pk3 (i : Nat) : mst T (Crun s (Ipk3 i :: k)) = Crun (ptS s i (cl s)) k := rfl
theorem m_ofE (v m : Nat) : mst T (Crun s (IofE v m :: k)) = Crun (emS s 14 v m) k := rfl
theorem num_y {lo hi : Int} (h1 : T.1 (s.1 0) = 2) (h2 : lo ≤ (T.2.1 (s.1 0)).toInt) (h3 : (T.2.1 (s.1 0)).toInt ≤ hi) (kk : Nat → Cf) : numW T s lo hi kk = kk (T.2.1 (s.1 0)).toInt.toNat := (if_neg (fun q => q h1)).trans (if_neg (fun q => by omega))
theorem num_1 {lo hi : Int} (h : T.1 (s.1 0) ≠ 2) (kk : Nat → Cf) : numW T s lo hi kk = fl T s 1 := if_pos h
theorem num_4 {lo hi : Int} (h1 : T.1 (s.1 0) = 2) (h2 : (T.2.1 (s.1 0)).toInt < lo ∨ hi < (T.2.1 (s.1 0)).toInt) (kk : Nat → Cf) : numW T s lo hi kk = fl T s 4 := (if_neg (fun q => q h1)).trans (if_pos h2)
theorem vo_y {d : Nat} (h1 : T.1 (s.1 0) = 2) (h2 : 0 ≤ (T.2.1 (s.1 0)).toInt) (h3 : (T.2.1 (s.1 0)).toInt ≤ (((s.1 1 : Nat) : Int) - 1)) : mst T (Crun s (IofN d :: k)) = Crun (nx s 1) (Itake 46 :: IofM d (T.2.1 (s.1 0)).toInt.toNat :: k) := (show numW T s 0 (((s.1 1 : Nat) : Int) - 1) (fun v => Crun (nx s 1) (Itake 46 :: IofM d v :: k)) = _ from num_y h1 h2 h3 _)
theorem vo_1 {d : Nat} (h : T.1 (s.1 0) ≠ 2) : mst T (Crun s (IofN d :: k)) = fl T s 1 := (show numW T s 0 (((s.1 1 : Nat) : Int) - 1) (fun v => Crun (nx s 1) (Itake 46 :: IofM d v :: k)) = _ from num_1 h _)
theorem vo_4 {d : Nat} (h1 : T.1 (s.1 0) = 2) (h2 : (T.2.1 (s.1 0)).toInt < 0 ∨ (((s.1 1 : Nat) : Int) - 1) < (T.2.1 (s.1 0)).toInt) : mst T (Crun s (IofN d :: k)) = fl T s 4 := (show numW T s 0 (((s.1 1 : Nat) : Int) - 1) (fun v => Crun (nx s 1) (Itake 46 :: IofM d v :: k)) = _ from num_4 h1 h2 _)
theorem vf_y (h1 : T.1 (s.1 0) = 2) (h2 : 1 ≤ (T.2.1 (s.1 0)).toInt) (h3 : (T.2.1 (s.1 0)).toInt ≤ 9) : mst T (Crun s (IfailN :: k)) = Crun (emS (nx s 1) 10 (T.2.1 (s.1 0)).toInt.toNat 0) k := (show numW T s 1 9 (fun v => Crun (emS (nx s 1) 10 v 0) k) = _ from num_y h1 h2 h3 _)
theorem vf_1 (h : T.1 (s.1 0) ≠ 2) : mst T (Crun s (IfailN :: k)) = fl T s 1 := (show numW T s 1 9 (fun v => Crun (emS (nx s 1) 10 v 0) k) = _ from num_1 h _)
theorem vf_4 (h1 : T.1 (s.1 0) = 2) (h2 : (T.2.1 (s.1 0)).toInt < 1 ∨ 9 < (T.2.1 (s.1 0)).toInt) : mst T (Crun s (IfailN :: k)) = fl T s 4 := (show numW T s 1 9 (fun v => Crun (emS (nx s 1) 10 v 0) k) = _ from num_4 h1 h2 _)
theorem vn_y {f m : Nat} (h1 : T.1 (s.1 0) = 2) (h2 : 0 ≤ (T.2.1 (s.1 0)).toInt) (h3 : (T.2.1 (s.1 0)).toInt ≤ 99) : mst T (Crun s (IwrN f m :: k)) = Crun (nx s 1) (Iphase m [f, (T.2.1 (s.1 0)).toInt.toNat] :: k) := (show numW T s 0 99 (fun v => Crun (nx s 1) (Iphase m [f, v] :: k)) = _ from num_y h1 h2 h3 _)
theorem vn_1 {f m : Nat} (h : T.1 (s.1 0) ≠ 2) : mst T (Crun s (IwrN f m :: k)) = fl T s 1 := (show numW T s 0 99 (fun v => Crun (nx s 1) (Iphase m [f, v] :: k)) = _ from num_1 h _)
theorem vn_4 {f m : Nat} (h1 : T.1 (s.1 0) = 2) (h2 : (T.2.1 (s.1 0)).toInt < 0 ∨ 99 < (T.2.1 (s.1 0)).toInt) : mst T (Crun s (IwrN f m :: k)) = fl T s 4 := (show numW T s 0 99 (fun v => Crun (nx s 1) (Iphase m [f, v] :: k)) = _ from num_4 h1 h2 _)
theorem vs_y {w : Int64} (h1 : T.1 (s.1 0) = 2) (h2 : 0 ≤ (T.2.1 (s.1 0)).toInt) (h3 : (T.2.1 (s.1 0)).toInt ≤ 999999999) : mst T (Crun s (IsetN w :: k)) = Crun (nx s 1) (Itake 59 :: IaddSe w (T.2.1 (s.1 0)).toInt.toNat :: Istmt :: k) := (show numW T s 0 999999999 (fun v => Crun (nx s 1) (Itake 59 :: IaddSe w v :: Istmt :: k)) = _ from num_y h1 h2 h3 _)
theorem vs_1 {w : Int64} (h : T.1 (s.1 0) ≠ 2) : mst T (Crun s (IsetN w :: k)) = fl T s 1 := (show numW T s 0 999999999 (fun v => Crun (nx s 1) (Itake 59 :: IaddSe w v :: Istmt :: k)) = _ from num_1 h _)
theorem vs_4 {w : Int64} (h1 : T.1 (s.1 0) = 2) (h2 : (T.2.1 (s.1 0)).toInt < 0 ∨ 999999999 < (T.2.1 (s.1 0)).toInt) : mst T (Crun s (IsetN w :: k)) = fl T s 4 := (show numW T s 0 999999999 (fun v => Crun (nx s 1) (Itake 59 :: IaddSe w v :: Istmt :: k)) = _ from num_4 h1 h2 _)
theorem vr_y {m : Nat} {sc : Int} {w : Int64} {l : List Nat} (h1 : T.1 (s.1 0) = 2) (h2 : 0 ≤ (T.2.1 (s.1 0)).toInt) (h3 : (T.2.1 (s.1 0)).toInt ≤ 9) : mst T (Crun s (IrankN m sc w l :: k)) = Crun (nx s 1) (IwhenI m sc w ((T.2.1 (s.1 0)).toInt.toNat :: l) :: k) := (show numW T s 0 9 (fun v => Crun (nx s 1) (IwhenI m sc w (v :: l) :: k)) = _ from num_y h1 h2 h3 _)
theorem vr_1 {m : Nat} {sc : Int} {w : Int64} {l : List Nat} (h : T.1 (s.1 0) ≠ 2) : mst T (Crun s (IrankN m sc w l :: k)) = fl T s 1 := (show numW T s 0 9 (fun v => Crun (nx s 1) (IwhenI m sc w (v :: l) :: k)) = _ from num_1 h _)
theorem vr_4 {m : Nat} {sc : Int} {w : Int64} {l : List Nat} (h1 : T.1 (s.1 0) = 2) (h2 : (T.2.1 (s.1 0)).toInt < 0 ∨ 9 < (T.2.1 (s.1 0)).toInt) : mst T (Crun s (IrankN m sc w l :: k)) = fl T s 4 := (show numW T s 0 9 (fun v => Crun (nx s 1) (IwhenI m sc w (v :: l) :: k)) = _ from num_4 h1 h2 _)
theorem vw_y {m : Nat} {sc : Int} {w : Int64} {l : List Nat} (h1 : T.1 (s.1 0) = 2) (h2 : 0 ≤ (T.2.1 (s.1 0)).toInt) (h3 : (T.2.1 (s.1 0)).toInt ≤ 999999999) : mst T (Crun s (IwhenN m sc w l :: k)) = Crun (nx s 1) (Itake 123 :: IaddNm m sc w ((T.2.1 (s.1 0)).toInt.toNat :: l) :: Imember :: k) := (show numW T s 0 999999999 (fun v => Crun (nx s 1) (Itake 123 :: IaddNm m sc w (v :: l) :: Imember :: k)) = _ from num_y h1 h2 h3 _)
theorem vw_1 {m : Nat} {sc : Int} {w : Int64} {l : List Nat} (h : T.1 (s.1 0) ≠ 2) : mst T (Crun s (IwhenN m sc w l :: k)) = fl T s 1 := (show numW T s 0 999999999 (fun v => Crun (nx s 1) (Itake 123 :: IaddNm m sc w (v :: l) :: Imember :: k)) = _ from num_1 h _)
theorem vw_4 {m : Nat} {sc : Int} {w : Int64} {l : List Nat} (h1 : T.1 (s.1 0) = 2) (h2 : (T.2.1 (s.1 0)).toInt < 0 ∨ 999999999 < (T.2.1 (s.1 0)).toInt) : mst T (Crun s (IwhenN m sc w l :: k)) = fl T s 4 := (show numW T s 0 999999999 (fun v => Crun (nx s 1) (Itake 123 :: IaddNm m sc w (v :: l) :: Imember :: k)) = _ from num_4 h1 h2 _)
theorem calledH_y (m : Nat) (sc : Int) (w : Int64) (h : T.1 (s.1 0) = 133) : mst T (Crun s (IcalledH m sc w :: k)) = Crun (nx s 1) (IwordH m sc w :: k) := if_pos h
theorem calledH_n (m : Nat) (sc : Int) (w : Int64) (h : T.1 (s.1 0) ≠ 133) : mst T (Crun s (IcalledH m sc w :: k)) = Crun s (Irank m sc w [0] :: k) := if_neg h
theorem wh_y {x : Nat × St} {m : Nat} {sc : Int} {w : Int64} (h : ∀ kk, mthW T s 4 kk = kk x) : mst T (Crun s (IwordH m sc w :: k)) = Crun x.2 (Irank m sc w [x.1 + 1] :: k) := h _
theorem wh_b {F : Int} {m : Nat} {sc : Int} {w : Int64} (h : ∀ kk, mthW T s 4 kk = Cbad F) : mst T (Crun s (IwordH m sc w :: k)) = Cbad F := h _
theorem wS_y {f m : Nat} {sc : Int} {w : Int64} {l : List Nat} (h : ∀ kk, look T s (s.2.1 1) kk = kk f) : mst T (Crun s (IwhenS m sc w l :: k)) = Crun (nx s 1) (IwhenN m sc w ((f + 1) :: l) :: k) := h _
theorem wS_b {F : Int} {m : Nat} {sc : Int} {w : Int64} {l : List Nat} (h : ∀ kk, look T s (s.2.1 1) kk = Cbad F) : mst T (Crun s (IwhenS m sc w l :: k)) = Cbad F := h _
theorem wo_y {x : Nat × St} {a : Int} {f : Nat} (h : ∀ kk, mthW T s 4 kk = kk x) : mst T (Crun s (Iword a f :: k)) = Crun x.2 (Itake 59 :: IaddNeed a f (x.1 + 1) :: Imember :: k) := h _
theorem wo_b {F : Int} {a : Int} {f : Nat} (h : ∀ kk, mthW T s 4 kk = Cbad F) : mst T (Crun s (Iword a f :: k)) = Cbad F := h _
theorem nt_y {w : Int64} (h : ∀ kk, newN T s kk = kk w) : mst T (Crun s (InewType :: k)) = Crun (nx s 1) (Ilike w :: k) := (show newN T s (fun w => Crun (nx s 1) (Ilike w :: k)) = _ from h _)
theorem nt_b {F : Int} (h : ∀ kk, newN T s kk = Cbad F) : mst T (Crun s (InewType :: k)) = Cbad F := (show newN T s (fun w => Crun (nx s 1) (Ilike w :: k)) = _ from h _)
theorem ns_y {w : Int64} (h : ∀ kk, newN T s kk = kk w) : mst T (Crun s (InewSet :: k)) = Crun (nx s 1) (IsetN w :: k) := (show newN T s (fun w => Crun (nx s 1) (IsetN w :: k)) = _ from h _)
theorem ns_b {F : Int} (h : ∀ kk, newN T s kk = Cbad F) : mst T (Crun s (InewSet :: k)) = Cbad F := (show newN T s (fun w => Crun (nx s 1) (IsetN w :: k)) = _ from h _)
theorem nc_y {w : Int64} (h : ∀ kk, newN T s kk = kk w) : mst T (Crun s (InewComp :: k)) = Crun (nx s 1) (Itake 132 :: Itypes 1 w 0 [] :: k) := (show newN T s (fun w => Crun (nx s 1) (Itake 132 :: Itypes 1 w 0 [] :: k)) = _ from h _)
theorem nc_b {F : Int} (h : ∀ kk, newN T s kk = Cbad F) : mst T (Crun s (InewComp :: k)) = Cbad F := (show newN T s (fun w => Crun (nx s 1) (Itake 132 :: Itypes 1 w 0 [] :: k)) = _ from h _)
theorem ty_3 {f n : Nat} {seen : List Nat} {c : Int} {w : Int64} (h : ∀ kk, look T s (s.2.1 0) kk = kk f) (q : f ∈ seen) : mst T (Crun s (Itypes c w n seen :: k)) = fl T s 3 := (h _).trans (if_pos q)
theorem ty_5 {f n : Nat} {seen : List Nat} {c : Int} {w : Int64} (h : ∀ kk, look T s (s.2.1 0) kk = kk f) (q : f ∉ seen) (hn : 6 ≤ n) : mst T (Crun s (Itypes c w n seen :: k)) = fl T s 5 := (h _).trans ((if_neg q).trans (if_pos hn))
theorem ty_y {f n : Nat} {seen : List Nat} {c : Int} {w : Int64} (h : ∀ kk, look T s (s.2.1 0) kk = kk f) (q : f ∉ seen) (hn : ¬ 6 ≤ n) : mst T (Crun s (Itypes c w n seen :: k)) = Crun (nx s 1) (Imore c w (n + 1) (f :: seen) :: k) := (h _).trans ((if_neg q).trans (if_neg hn))
theorem ty_b {n : Nat} {seen : List Nat} {c : Int} {w : Int64} {F : Int} (h : ∀ kk, look T s (s.2.1 0) kk = Cbad F) : mst T (Crun s (Itypes c w n seen :: k)) = Cbad F := h _
theorem more_y (c : Int) (w : Int64) (n : Nat) (seen : List Nat) (h : T.1 (s.1 0) = 44) : mst T (Crun s (Imore c w n seen :: k)) = Crun (nx s 1) (Itypes c w n seen :: k) := if_pos h
theorem more_n (c : Int) (w : Int64) (n : Nat) (seen : List Nat) (h : T.1 (s.1 0) ≠ 44) : mst T (Crun s (Imore c w n seen :: k)) = Crun s (ItyD c w seen :: k) := if_neg h
theorem td_0 (w : Int64) (seen : List Nat) : mst T (Crun s (ItyD 0 w seen :: k)) = Crun s (Itake 59 :: IaddTy w seen :: Istmt :: k) := (show (if (0 : Int) = 0 then Crun s (Itake 59 :: IaddTy w seen :: Istmt :: k) else Crun s (Iscope w seen :: k)) = _ from if_pos rfl)
theorem td_1 (w : Int64) (seen : List Nat) : mst T (Crun s (ItyD 1 w seen :: k)) = Crun s (Iscope w seen :: k) := (show (if (1 : Int) = 0 then Crun s (Itake 59 :: IaddTy w seen :: Istmt :: k) else Crun s (Iscope w seen :: k)) = _ from if_neg (by decide))
theorem like_y (w : Int64) (h : T.1 (s.1 0) = 129) : mst T (Crun s (Ilike w :: k)) = Crun (nx s 1) (Itypes 0 w 0 [] :: k) := if_pos h
theorem like_n (w : Int64) (h : T.1 (s.1 0) ≠ 129) : mst T (Crun s (Ilike w :: k)) = Crun s (Itake 59 :: IaddTy w [] :: Istmt :: k) := if_neg h
theorem called_y (a : Int) (f : Nat) (h : T.1 (s.1 0) = 133) : mst T (Crun s (Icalled a f :: k)) = Crun (nx s 1) (Iword a f :: k) := if_pos h
theorem called_n (a : Int) (f : Nat) (h : T.1 (s.1 0) ≠ 133) : mst T (Crun s (Icalled a f :: k)) = Crun s (Itake 59 :: IaddNeed a f 0 :: Imember :: k) := if_neg h
theorem rank_y (m : Nat) (sc : Int) (w : Int64) (l : List Nat) (h : T.1 (s.1 0) = 134) : mst T (Crun s (Irank m sc w l :: k)) = Crun (nx s 1) (IrankN m sc w l :: k) := if_pos h
theorem rank_n (m : Nat) (sc : Int) (w : Int64) (l : List Nat) (h : T.1 (s.1 0) ≠ 134) : mst T (Crun s (Irank m sc w l :: k)) = Crun s (IwhenI m sc w (0 :: l) :: k) := if_neg h
theorem when_y (m : Nat) (sc : Int) (w : Int64) (l : List Nat) (h : T.1 (s.1 0) = 135) : mst T (Crun s (IwhenI m sc w l :: k)) = Crun (nx s 1) (IwhenS m sc w l :: k) := if_pos h
theorem when_n (m : Nat) (sc : Int) (w : Int64) (l : List Nat) (h : T.1 (s.1 0) ≠ 135) : mst T (Crun s (IwhenI m sc w l :: k)) = Crun s (Itake 123 :: IaddNm m sc w (0 :: 0 :: l) :: Imember :: k) := if_neg h
theorem needK_l (h : T.1 (s.1 0) = 138) : mst T (Crun s (IneedK :: k)) = Crun (nx s 1) (IneedT 1 :: k) := if_pos h
theorem needK_a (h : T.1 (s.1 0) = 139) : mst T (Crun s (IneedK :: k)) = Crun (nx s 1) (IneedT 2 :: k) := (if_neg (fun q => by rw [h] at q; exact absurd q (by decide))).trans (if_pos h)
theorem needK_n (h1 : T.1 (s.1 0) ≠ 138) (h2 : T.1 (s.1 0) ≠ 139) : mst T (Crun s (IneedK :: k)) = Crun s (IneedT 0 :: k) := (if_neg h1).trans (if_neg h2)
theorem nd_0 {f : Nat} (h : ∀ kk, look T s (s.2.1 0) kk = kk f) : mst T (Crun s (IneedT 0 :: k)) = Crun (nx s 1) (Icalled 0 f :: k) := (h _).trans (if_neg (by decide))
theorem nd_1 {f : Nat} (h : ∀ kk, look T s (s.2.1 0) kk = kk f) : mst T (Crun s (IneedT 1 :: k)) = Crun (nx s 1) (Icalled 1 f :: k) := (h _).trans (if_neg (by decide))
theorem nd_2 {f : Nat} (h : ∀ kk, look T s (s.2.1 0) kk = kk f) : mst T (Crun s (IneedT 2 :: k)) = Crun (nx s 1) (Itake 59 :: IaddNeed 2 f 0 :: Imember :: k) := (h _).trans (if_pos rfl)
theorem nd_b {a F : Int} (h : ∀ kk, look T s (s.2.1 0) kk = Cbad F) : mst T (Crun s (IneedT a :: k)) = Cbad F := h _
theorem m_addTy (w : Int64) (l : List Nat) : mst T (Crun s (IaddTy w l :: k)) = Crun (tyS s w l) k := rfl
theorem m_addSe (w : Int64) (v : Nat) : mst T (Crun s (IaddSe w v :: k)) = Crun (seS s w v) k := rfl
theorem m_addNm (m : Nat) (sc : Int) (w : Int64) (l : List Nat) : mst T (Crun s (IaddNm m sc w l :: k)) = Crun (nmS s m sc w l) k := rfl
theorem m_addNeed (a : Int) (f ca : Nat) : mst T (Crun s (IaddNeed a f ca :: k)) = Crun (ndS s a f ca) k := rfl
theorem m_addWr (f : Nat) (a : Int) (l : List Nat) : mst T (Crun s (IaddWr f a l :: k)) = Crun (wrS s f a l) k := rfl
theorem mn_y {x : Nat × St} (h : ∀ kk, mthN T s kk = kk x) : mst T (Crun s (ImethN :: k)) = Crun (sL (sT x.2 (x.1 :: s.2.2.2)) (100 + 32 * ((s.2.1 2).length - 1) + x.1) (cl s + 1)) k := h _
theorem mn_b {F : Int} (h : ∀ kk, mthN T s kk = Cbad F) : mst T (Crun s (ImethN :: k)) = Cbad F := h _
theorem wt_y {f : Nat} (h : ∀ kk, look T s (s.2.1 0) kk = kk f) : mst T (Crun s (IwrapType :: k)) = Crun (nx s 1) (Itake 46 :: IwrapMeth f :: k) := h _
theorem wt_b {F : Int} (h : ∀ kk, look T s (s.2.1 0) kk = Cbad F) : mst T (Crun s (IwrapType :: k)) = Cbad F := h _
theorem wm_y {f : Nat} {x : Nat × St} (h : ∀ kk, mthW T s 3 kk = kk x) : mst T (Crun s (IwrapMeth f :: k)) = Crun x.2 (IwrN f x.1 :: k) := h _
theorem wm_b {f : Nat} {F : Int} (h : ∀ kk, mthW T s 3 kk = Cbad F) : mst T (Crun s (IwrapMeth f :: k)) = Cbad F := h _
theorem sc_n (w : Int64) (l : List Nat) (h : T.1 (s.1 0) < 148 ∨ 151 < T.1 (s.1 0)) : mst T (Crun s (Iscope w l :: k)) = fl T s 1 := if_pos h
theorem sc_y (w : Int64) (l : List Nat) (h : ¬ (T.1 (s.1 0) < 148 ∨ 151 < T.1 (s.1 0))) : mst T (Crun s (Iscope w l :: k)) = Crun (scopeS s) (IcalledH (msk s.1 l) (T.1 (s.1 0) - 148) w :: k) := if_neg h
theorem ph_1 (f : Nat) (l : List Nat) (h : T.1 (s.1 0) < 152 ∨ 155 < T.1 (s.1 0)) : mst T (Crun s (Iphase f l :: k)) = fl T s 1 := if_pos h
theorem ph_5 (f : Nat) (l : List Nat) (h : T.1 (s.1 0) = 153) (q : 2 ≤ arounds s.2.2.1 f) : mst T (Crun s (Iphase f l :: k)) = fl T s 5 := (if_neg (fun z => by omega)).trans (if_pos ⟨h, q⟩)
theorem ph_a (f : Nat) (l : List Nat) (h : T.1 (s.1 0) = 153) (q : ¬ 2 ≤ arounds s.2.2.1 f) : mst T (Crun s (Iphase f l :: k)) = Crun (sN (nx s 1) 4 2) (Iexpr 0 :: Iem 0 :: Itake 59 :: IaddWr f 1 (l ++ [cl s]) :: Istmt :: k) := (if_neg (fun z => by omega)).trans ((if_neg (fun z => q z.2)).trans (by rw [if_pos h, h]; rfl))
theorem ph_y (f : Nat) (l : List Nat) (h : ¬ (T.1 (s.1 0) < 152 ∨ 155 < T.1 (s.1 0))) (q : T.1 (s.1 0) ≠ 153) : mst T (Crun s (Iphase f l :: k)) = Crun (sN (nx s 1) 4 1) (Iexpr 0 :: Iem 0 :: Itake 59 :: IaddWr f (T.1 (s.1 0) - 152) (l ++ [cl s]) :: Istmt :: k) := (if_neg h).trans ((if_neg (fun z => q z.1)).trans (by rw [if_neg q]))
theorem st_0 (h : T.1 (s.1 0) = 0) : mst T (Crun s (Istmt :: k)) = Cdone s := if_pos h
theorem st_128f (h : T.1 (s.1 0) = 128) (q : 24 ≤ (s.2.1 0).length) : mst T (Crun s (Istmt :: k)) = fl T s 5 := by
  show stmtW T s k = _; unfold stmtW; rw [h]; exact if_pos q
theorem st_128 (h : T.1 (s.1 0) = 128) (q : ¬ 24 ≤ (s.2.1 0).length) : mst T (Crun s (Istmt :: k)) = Crun (nx s 1) (InewType :: k) := by
  show stmtW T s k = _; unfold stmtW; rw [h]; exact if_neg q
theorem st_130f (h : T.1 (s.1 0) = 130) (q : 12 ≤ (s.2.1 1).length) : mst T (Crun s (Istmt :: k)) = fl T s 5 := by
  show stmtW T s k = _; unfold stmtW; rw [h]; exact if_pos q
theorem st_130 (h : T.1 (s.1 0) = 130) (q : ¬ 12 ≤ (s.2.1 1).length) : mst T (Crun s (Istmt :: k)) = Crun (nx s 1) (InewSet :: k) := by
  show stmtW T s k = _; unfold stmtW; rw [h]; exact if_neg q
theorem st_131f (h : T.1 (s.1 0) = 131) (q : 24 ≤ (s.2.1 2).length) : mst T (Crun s (Istmt :: k)) = fl T s 5 := by
  show stmtW T s k = _; unfold stmtW; rw [h]; exact if_pos q
theorem st_131 (h : T.1 (s.1 0) = 131) (q : ¬ 24 ≤ (s.2.1 2).length) : mst T (Crun s (Istmt :: k)) = Crun (nx s 1) (InewComp :: k) := by
  show stmtW T s k = _; unfold stmtW; rw [h]; exact if_neg q
theorem st_136f (h : T.1 (s.1 0) = 136) (q : 12 ≤ s.2.2.1.length) : mst T (Crun s (Istmt :: k)) = fl T s 5 := by
  show stmtW T s k = _; unfold stmtW; rw [h]; exact if_pos q
theorem st_136 (h : T.1 (s.1 0) = 136) (q : ¬ 12 ≤ s.2.2.1.length) : mst T (Crun s (Istmt :: k)) = Crun (nx s 1) (IwrapType :: k) := by
  show stmtW T s k = _; unfold stmtW; rw [h]; exact if_neg q
theorem st_x (h0 : T.1 (s.1 0) ≠ 0) (h1 : T.1 (s.1 0) ≠ 128) (h2 : T.1 (s.1 0) ≠ 130) (h3 : T.1 (s.1 0) ≠ 131) (h4 : T.1 (s.1 0) ≠ 136) : mst T (Crun s (Istmt :: k)) = fl T s 1 := by
  show stmtW T s k = _; unfold stmtW; rw [if_neg h0, if_neg h1, if_neg h2, if_neg h3, if_neg h4]
theorem mb_125 (h : T.1 (s.1 0) = 125) : mst T (Crun s (Imember :: k)) = Crun (nx s 1) (Istmt :: k) := if_pos h
theorem mb_137f (h : T.1 (s.1 0) = 137) (q : 8 ≤ s.1 1) : mst T (Crun s (Imember :: k)) = fl T s 5 := by
  show memberW T s k = _; unfold memberW; rw [h]; exact if_pos q
theorem mb_137 (h : T.1 (s.1 0) = 137) (q : ¬ 8 ≤ s.1 1) : mst T (Crun s (Imember :: k)) = Crun (nx s 1) (IneedK :: k) := by
  show memberW T s k = _; unfold memberW; rw [h]; exact if_neg q
theorem mb_140f (h : T.1 (s.1 0) = 140) (q : s.1 2 = 1) : mst T (Crun s (Imember :: k)) = fl T s 1 := by
  show memberW T s k = _; unfold memberW; rw [h]; exact if_pos q
theorem mb_140 (h : T.1 (s.1 0) = 140) (q : ¬ s.1 2 = 1) : mst T (Crun s (Imember :: k)) = Crun (sL (nx (sN s 2 1) 1) (100 + 32 * ((s.2.1 2).length - 1) + 30) (cl s + 1)) (Iexpr 0 :: Iem 0 :: Itake 59 :: Imember :: k) := by
  show memberW T s k = _; unfold memberW; rw [h]; exact if_neg q
theorem mb_141f (h : T.1 (s.1 0) = 141) (q : s.1 3 = 1) : mst T (Crun s (Imember :: k)) = fl T s 1 := by
  show memberW T s k = _; unfold memberW; rw [h]; exact if_pos q
theorem mb_141 (h : T.1 (s.1 0) = 141) (q : ¬ s.1 3 = 1) : mst T (Crun s (Imember :: k)) = Crun (sL (nx (sN s 3 1) 1) (100 + 32 * ((s.2.1 2).length - 1) + 31) (cl s + 1)) (Iexpr 0 :: Iem 0 :: Itake 59 :: Imember :: k) := by
  show memberW T s k = _; unfold memberW; rw [h]; exact if_neg q
theorem mb_142 (h : T.1 (s.1 0) = 142) : mst T (Crun s (Imember :: k)) = Crun (nx s 1) (ImethN :: Iexpr 0 :: Iem 0 :: Itake 59 :: Imember :: k) := by
  show memberW T s k = _; unfold memberW; rw [h]; rfl
theorem mb_x (h1 : T.1 (s.1 0) ≠ 125) (h2 : T.1 (s.1 0) ≠ 137) (h3 : T.1 (s.1 0) ≠ 140) (h4 : T.1 (s.1 0) ≠ 141) (h5 : T.1 (s.1 0) ≠ 142) : mst T (Crun s (Imember :: k)) = fl T s 1 := by
  show memberW T s k = _; unfold memberW; rw [if_neg h1, if_neg h2, if_neg h3, if_neg h4, if_neg h5]
end Stp
/-! what the takers' words say -/
theorem newN_1 {T : Tk} {s : St} (h : T.1 (s.1 0) ≠ 3) (kk : Int64 → Cf) : newN T s kk = fl T s 1 := if_pos h
theorem newN_3 {T : Tk} {s : St} (h : T.1 (s.1 0) = 3) (q : isTold s (T.2.1 (s.1 0)) = true) (kk : Int64 → Cf) : newN T s kk = fl T s 3 := (if_neg (fun z => z h)).trans (if_pos q)
theorem newN_y {T : Tk} {s : St} (h : T.1 (s.1 0) = 3) (q : ¬ isTold s (T.2.1 (s.1 0)) = true) (kk : Int64 → Cf) : newN T s kk = kk (T.2.1 (s.1 0)) := (if_neg (fun z => z h)).trans (if_neg q)
theorem look_1 {T : Tk} {s : St} {l : List Int64} (h : T.1 (s.1 0) ≠ 3) (kk : Nat → Cf) : look T s l kk = fl T s 1 := if_pos h
theorem look_2 {T : Tk} {s : St} {l : List Int64} (h : T.1 (s.1 0) = 3) (q : fndI l (T.2.1 (s.1 0)) = none) (kk : Nat → Cf) : look T s l kk = fl T s 2 := (if_neg (fun z => z h)).trans (by rw [q])
theorem look_y {T : Tk} {s : St} {l : List Int64} {f : Nat} (h : T.1 (s.1 0) = 3) (q : fndI l (T.2.1 (s.1 0)) = some f) (kk : Nat → Cf) : look T s l kk = kk f := (if_neg (fun z => z h)).trans (by rw [q])
theorem nbr_y {T : Tk} {s : St} {j f : Nat} (q : fndI (s.2.1 j) (T.2.1 (s.1 0)) = some f) (kk : Nat × St → Cf) : nbrW T s j kk = kk (f, nx s 1) := by unfold nbrW; rw [q]
theorem nbr_5 {T : Tk} {s : St} {j : Nat} (q : fndI (s.2.1 j) (T.2.1 (s.1 0)) = none) (h : 20 ≤ (s.2.1 j).length) (kk : Nat × St → Cf) : nbrW T s j kk = fl T s 5 := by unfold nbrW; rw [q]; exact if_pos h
theorem nbr_n {T : Tk} {s : St} {j : Nat} (q : fndI (s.2.1 j) (T.2.1 (s.1 0)) = none) (h : ¬ 20 ≤ (s.2.1 j).length) (kk : Nat × St → Cf) : nbrW T s j kk = kk ((s.2.1 j).length, sA (nx s 1) j (T.2.1 (s.1 0))) := by unfold nbrW; rw [q]; exact if_neg h
theorem mth_1 {T : Tk} {s : St} {j : Nat} (h : T.1 (s.1 0) ≠ 3) (kk : Nat × St → Cf) : mthW T s j kk = fl T s 1 := if_pos h
theorem mth_y {T : Tk} {s : St} {j : Nat} (h : T.1 (s.1 0) = 3) (kk : Nat × St → Cf) : mthW T s j kk = nbrW T s j kk := if_neg (fun z => z h)
theorem mthN_3 {T : Tk} {s : St} (h : T.1 (s.1 0) = 3) (q : mTold s (T.2.1 (s.1 0)) = true) (kk : Nat × St → Cf) : mthN T s kk = fl T s 3 := if_pos ⟨h, q⟩
theorem mthN_y {T : Tk} {s : St} (q : ¬ (T.1 (s.1 0) = 3 ∧ mTold s (T.2.1 (s.1 0)) = true)) (kk : Nat × St → Cf) : mthN T s kk = mthW T s 3 kk := if_neg q
theorem mTold_n {s : St} {w : Int64} (h : fndI (s.2.1 3) w = none) : mTold s w = false := by unfold mTold; rw [h]
theorem mTold_s {s : St} {w : Int64} {f : Nat} (h : fndI (s.2.1 3) w = some f) : mTold s w = s.2.2.2.contains f := by unfold mTold; rw [h]
/-! the E's code, as the reader's machine lays it -/
theorem sL_s (s : St) (j : Nat) (l : List Int64) : (sLl s j l).2.1 j = l := if_pos rfl
theorem nLl_s (s : St) (j : Nat) (l : List Int64) : nL (sLl s j l) j = l.length := congrArg List.length (sL_s s j l)
theorem nL_s (s : St) (j n : Nat) : nL (sL s j n) j = n := (nLl_s s j _).trans List.length_replicate
theorem sL_o (s : St) {j k : Nat} (l : List Int64) (h : ¬ k = j) : (sLl s j l).2.1 k = s.2.1 k := if_neg h
theorem sL_3 (s : St) {j n : Nat} (h : 6 ≤ j) : ((sL s j n).2.1 3).length = (s.2.1 3).length := congrArg List.length (sL_o s _ (by omega))
theorem nL_o (s : St) {j k : Nat} (l : List Int64) (h : ¬ k = j) : nL (sLl s j l) k = nL s k := congrArg List.length (sL_o s l h)
theorem emS_o (s : St) (o : Nat) (x : List Int64) (y : Nat) {k : Nat} (h5 : ¬ k = 5) (h : k < 2000 + 3 * cl s ∨ 2003 + 3 * cl s ≤ k) : (emL s o x y).2.1 k = s.2.1 k := by
  unfold emL
  rw [sL_o _ _ (by omega), sL_o _ _ (by omega), sL_o _ _ (by omega), sL_o _ _ h5]
theorem nL_em (s : St) (o : Nat) (x : List Int64) (y : Nat) {k : Nat} (h5 : ¬ k = 5) (h : k < 2000 + 3 * cl s ∨ 2003 + 3 * cl s ≤ k) : nL (emL s o x y) k = nL s k := congrArg List.length (emS_o s o x y h5 h)
theorem cl_em (s : St) (o : Nat) (x : List Int64) (y : Nat) : cl (emL s o x y) = cl s + 1 := by
  show nL (emL s o x y) 5 = _
  unfold emL
  rw [nL_o _ _ (by omega), nL_o _ _ (by omega), nL_o _ _ (by omega), nL_s]
theorem op_em (s : St) (o : Nat) (x : List Int64) (y : Nat) : nL (emL s o x y) (2000 + 3 * cl s) = o := by
  unfold emL
  rw [nL_o _ _ (by omega), nL_o _ _ (by omega), nL_s]
theorem x_em (s : St) (o : Nat) (x : List Int64) (y : Nat) : nL (emL s o x y) (2001 + 3 * cl s) = x.length := by
  unfold emL
  rw [nL_o _ _ (by omega), nLl_s]
theorem xl_em (s : St) (o : Nat) (x : List Int64) (y : Nat) : (emL s o x y).2.1 (2001 + 3 * cl s) = x := by
  unfold emL
  rw [sL_o _ _ (by omega), sL_s]
theorem y_em (s : St) (o : Nat) (x : List Int64) (y : Nat) : nL (emL s o x y) (2002 + 3 * cl s) = y := by
  unfold emL
  rw [nL_s]
theorem cl_pt (s : St) (i x : Nat) : cl (ptS s i x) = cl s := nL_o s _ (by omega)
/-- how many words of the class an order takes; where it begins there -/
def szO (o : Nat) : Nat := if o = 2 ∨ (10 ≤ o ∧ o ≤ 14) then 2 else 1
def psz (f : Nat → Nat) : Nat → Nat
  | 0 => 0
  | i + 1 => psz f i + szO (f i)
abbrev opf (s : St) : Nat → Nat := fun i => nL s (2000 + 3 * i)
def wl (s : St) : Nat := psz (opf s) (cl s)
theorem szO_b (o : Nat) : 1 ≤ szO o ∧ szO o ≤ 2 := by
  unfold szO
  by_cases h : o = 2 ∨ (10 ≤ o ∧ o ≤ 14)
  · rw [if_pos h]
    omega
  · rw [if_neg h]
    omega
theorem psz_ext {f g : Nat → Nat} : ∀ {i : Nat}, (∀ k, k < i → f k = g k) → psz f i = psz g i
  | 0, _ => rfl
  | i + 1, h => by
    show psz f i + szO (f i) = psz g i + szO (g i)
    rw [psz_ext (fun k hk => h k (by omega)), h i (by omega)]
theorem psz_le {f : Nat → Nat} {i : Nat} : ∀ {j : Nat}, i < j → psz f i + szO (f i) ≤ psz f j
  | 0, h => absurd h (Nat.not_lt_zero _)
  | j + 1, h => by
    show psz f i + szO (f i) ≤ psz f j + szO (f j)
    by_cases q : i = j
    · subst q
      exact Nat.le_refl _
    · have z := psz_le (f := f) (i := i) (j := j) (by omega)
      omega
theorem psz_lt {f : Nat → Nat} {i j : Nat} (h : i < j) : psz f i < psz f j := by
  have z := psz_le (f := f) h
  have y := szO_b (f i)
  omega
theorem opf_em (s : St) (o : Nat) (x : List Int64) (y : Nat) {i : Nat} (h : i < cl s) : opf (emL s o x y) i = opf s i := nL_em s o x y (by omega) (Or.inl (by omega))
theorem psz_em (s : St) (o : Nat) (x : List Int64) (y : Nat) {i : Nat} (h : i ≤ cl s) : psz (opf (emL s o x y)) i = psz (opf s) i := psz_ext (fun k hk => opf_em s o x y (by omega))
theorem wl_em (s : St) (o : Nat) (x : List Int64) (y : Nat) : wl (emL s o x y) = wl s + szO o := by
  unfold wl
  rw [cl_em]
  show psz (opf (emL s o x y)) (cl s) + szO (nL (emL s o x y) (2000 + 3 * cl s)) = _
  rw [op_em, psz_em s o x y (Nat.le_refl _)]
theorem opf_pt (s : St) (i x : Nat) : opf (ptS s i x) = opf s := funext fun k => nL_o s _ (by omega)
theorem wl_pt (s : St) (i x : Nat) : wl (ptS s i x) = wl s := by
  unfold wl
  rw [opf_pt, cl_pt]
abbrev keepL (s s' : St) : Prop := ∀ j, 5 ≤ j → s'.2.1 j = s.2.1 j
/-- what stays of the code -/
def keepE (s s' : St) : Prop := cl s ≤ cl s' ∧ ∀ j, 8 ≤ j → j < 2000 + 3 * cl s → s'.2.1 j = s.2.1 j
theorem keepE.rf {s : St} : keepE s s := ⟨Nat.le_refl _, fun _ _ _ => rfl⟩
theorem keepE.tr {s a c : St} (h : keepE s a) (k : keepE a c) : keepE s c := ⟨Nat.le_trans h.1 k.1, fun j hj h2 => (k.2 j hj (by have := h.1; omega)).trans (h.2 j hj h2)⟩
theorem keepE.eq {s s' : St} (e : ∀ j, 5 ≤ j → s'.2.1 j = s.2.1 j) : keepE s s' := ⟨Nat.le_of_eq (congrArg List.length (e 5 (by decide))).symm, fun j hj _ => e j (by omega)⟩
theorem keepE.em {s : St} {o : Nat} {x : List Int64} {y : Nat} : keepE s (emL s o x y) := ⟨by rw [cl_em]; omega, fun j hj h => emS_o s o x y (by omega) (Or.inl h)⟩
theorem keepE.pt {s a : St} {i x : Nat} (h : keepE s a) (k : cl s ≤ i) : keepE s (ptS a i x) := ⟨by rw [cl_pt]; exact h.1, fun j hj h2 => (sL_o a _ (by omega)).trans (h.2 j hj h2)⟩
theorem upB_p (f : Nat → List Int64) (t : Nat) (w : Int64) {k : Nat} (h : ¬ k = t) : upB f t w k = f k := if_neg h
theorem mth_e {T : Tk} {s : St} {j0 : Nat} {x : Nat × St} (hj : j0 < 5) (h : ∀ kk, mthW T s j0 kk = kk x) (j : Nat) (hj5 : 5 ≤ j) : x.2.2.1 j = s.2.1 j := by
  have z := h (fun y => Cdone y.2)
  unfold mthW at z
  by_cases c : T.1 (s.1 0) ≠ 3
  · rw [if_pos c] at z
    exact absurd z (fun e => by unfold fl at e; cases e)
  · rw [if_neg c] at z
    unfold nbrW at z
    cases q : fndI (s.2.1 j0) (T.2.1 (s.1 0)) with
    | some f =>
      rw [q] at z
      have e : nx s 1 = x.2 := by injection z with z1; injection z1
      rw [← e]
      rfl
    | none =>
      rw [q] at z
      by_cases d : 20 ≤ (s.2.1 j0).length
      · exact absurd ((if_pos d).symm.trans z) (fun e => by unfold fl at e; cases e)
      · have e : sA (nx s 1) j0 (T.2.1 (s.1 0)) = x.2 := by have z2 := (if_neg d).symm.trans z; injection z2 with z1; injection z1
        rw [← e]
        exact upB_p _ _ _ (by omega)
theorem mthN_e {T : Tk} {s : St} {x : Nat × St} (h : ∀ kk, mthN T s kk = kk x) (j : Nat) (hj5 : 5 ≤ j) : x.2.2.1 j = s.2.1 j := by
  by_cases c : T.1 (s.1 0) = 3 ∧ mTold s (T.2.1 (s.1 0)) = true
  · have z := h (fun y => Cdone y.2)
    unfold mthN at z
    rw [if_pos c] at z
    exact absurd z (fun e => by unfold fl at e; cases e)
  · exact mth_e (j0 := 3) (by decide) (fun kk => (mthN_y c kk).symm.trans (h kk)) j hj5
/-! the content's numbers -/
theorem ndf_1 (g : Nat → Nat) (c a f ca : Nat) : ndf g c a f ca 1 = g 1 + 1 := if_pos (Or.inl rfl)
theorem ndf_lo {g : Nat → Nat} {c a f ca i : Nat} (h1 : i ≠ 1) (h : i < 60) : ndf g c a f ca i = g i := by
  unfold ndf
  rw [if_neg (by omega), if_neg (by omega), if_neg (by omega), if_neg (by omega)]
/-- below 66 + 8 * c all stays -/
theorem ndf_h {g : Nat → Nat} {c a f ca i : Nat} (h1 : i ≠ 1) (h : i < 300) (h6 : i ≠ 66 + 8 * c) : ndf g c a f ca i = g i := by
  unfold ndf
  rw [if_neg (by omega), if_neg (by omega), if_neg (by omega), if_neg (by omega)]
theorem ndf_n {g : Nat → Nat} {c a f ca : Nat} : ndf g c a f ca (66 + 8 * c) = g 1 + 1 := if_pos (Or.inr rfl)
theorem ndf_o {g : Nat → Nat} {c a f ca i : Nat} (hc : c < 24) (h : 300 ≤ i) (ho : i < 300 + 32 * c + 4 * g 1 ∨ 303 + 32 * c + 4 * g 1 ≤ i) : ndf g c a f ca i = g i := by
  unfold ndf
  rw [if_neg (by omega), if_neg (by omega), if_neg (by omega), if_neg (by omega)]
theorem ndf_t {g : Nat → Nat} {c a f ca : Nat} (hc : c < 24) : ndf g c a f ca (300 + 32 * c + 4 * g 1) = f := by
  unfold ndf
  rw [if_neg (by omega), if_pos rfl]
theorem ndf_k {g : Nat → Nat} {c a f ca : Nat} (hc : c < 24) : ndf g c a f ca (301 + 32 * c + 4 * g 1) = a := by
  unfold ndf
  rw [if_neg (by omega), if_neg (by omega), if_pos rfl]
theorem ndf_w {g : Nat → Nat} {c a f ca : Nat} (hc : c < 24) : ndf g c a f ca (302 + 32 * c + 4 * g 1) = ca := by
  unfold ndf
  rw [if_neg (by omega), if_neg (by omega), if_neg (by omega), if_pos rfl]
theorem hdr_o {f : Nat → Nat} {c m sc i : Nat} {l : List Nat} (h : i < 60 + 8 * c ∨ 68 + 8 * c ≤ i) : hdr f c m sc l i = f i := if_neg (by omega)
theorem hdr_i {f : Nat → Nat} {c m sc r : Nat} {l : List Nat} (h : r < 8) : hdr f c m sc l (60 + 8 * c + r) = hvl m sc l r := by
  unfold hdr
  rw [if_pos (by omega), show 60 + 8 * c + r - (60 + 8 * c) = r from by omega]
/-- content and lists stay -/
def keepC (s s' : St) : Prop := (∀ i, 10 ≤ i → s'.1 i = s.1 i) ∧ ∀ j, j < 3 → s'.2.1 j = s.2.1 j
theorem keepC.rf {s : St} : keepC s s := ⟨fun _ _ => rfl, fun _ _ => rfl⟩
theorem keepC.tr {s a c : St} (h : keepC s a) (k : keepC a c) : keepC s c := ⟨fun i hi => (k.1 i hi).trans (h.1 i hi), fun j hj => (k.2 j hj).trans (h.2 j hj)⟩
theorem keepC.sn {s : St} {i v : Nat} (h : i < 10) : keepC s (sN s i v) := ⟨fun j hj => upN_o _ _ _ (by omega), fun _ _ => rfl⟩
theorem keepC.n1 {s : St} {n : Nat} : keepC s (nx s n) := keepC.sn (by decide)
theorem keepC.st {s : St} {l : List Nat} : keepC s (sT s l) := ⟨fun _ _ => rfl, fun _ _ => rfl⟩
theorem keepC.sw {s : St} {x : Nat × Bool} : keepC s (sW s x) := ⟨fun _ _ => rfl, fun _ _ => rfl⟩
theorem keepC.sc {s : St} : keepC (nx s 1) (scopeS s) := keepC.tr (keepC.tr (keepC.tr (keepC.tr (keepC.sn (i := 1) (v := 0) (by decide)) (keepC.sn (i := 2) (v := 0) (by decide))) (keepC.sn (i := 3) (v := 0) (by decide))) (keepC.sn (i := 4) (v := 0) (by decide))) (keepC.st (l := []))
theorem look_lt {T : Tk} {s : St} {l : List Int64} {f : Nat} (h : ∀ kk, look T s l kk = kk f) : f < l.length := by
  have z := h (fun g => Crun (sN s 0 g) [])
  unfold look at z
  split at z
  · unfold fl at z
    cases z
  · split at z
    · unfold fl at z
      cases z
    · rename_i g e
      have y : (sN s 0 g).1 0 = (sN s 0 f).1 0 := by
        injection z with z
        rw [(Prod.mk.inj z).1]
      have y2 : g = f := y
      rw [← y2]
      unfold fndI at e
      rw [List.findIdx?_eq_some_iff_getElem] at e
      exact e.1
/-- the types' sets of a list -/
theorem msk_cons (f : Nat → Nat) (t : Nat) (l : List Nat) : msk f (t :: l) = f (30 + t) ||| msk f l := rfl
theorem msk_eq {f g : Nat → Nat} (h : ∀ i, 10 ≤ i → g i = f i) (l : List Nat) : msk g l = msk f l := by
  induction l with
  | nil => rfl
  | cons t l ih => rw [msk_cons, msk_cons, ih, h _ (by omega)]
end
section
/-! a table of names: where a word stands -/
def NF (f : Nat → Int64) (n : Int) (w : Int64) (r : Int) : Prop := (r = -1 ∧ ∀ i : Nat, (i : Int) < n → f i ≠ w) ∨ ∃ i : Nat, r = (i : Int) ∧ (i : Int) < n ∧ f i = w ∧ ∀ j : Nat, j < i → f j ≠ w
/-- the list holds what the table holds -/
def LSw (l : List Int64) (f : Nat → Int64) (n : Int) : Prop := (l.length : Int) = n ∧ ∀ i (h : i < l.length), l[i] = f i
theorem NF.no {f : Nat → Int64} {n : Int} {w : Int64} {r : Int} {l : List Int64} (h : NF f n w r) (k : LSw l f n) (hr : r = -1) : fndI l w = none := by
  unfold fndI
  rw [List.findIdx?_eq_none_iff]
  intro x hx
  obtain ⟨i, hi, e⟩ := List.getElem_of_mem hx
  rcases h with ⟨_, h⟩ | ⟨i, h, _⟩
  · have z := h i (by have := k.1; omega)
    rw [← k.2 i hi, e] at z
    exact beq_false_of_ne z
  · omega
theorem NF.yes {f : Nat → Int64} {n : Int} {w : Int64} {r : Int} {l : List Int64} (h : NF f n w r) (k : LSw l f n) (hr : 0 ≤ r) : fndI l w = some r.toNat := by
  unfold fndI
  rcases h with ⟨h, _⟩ | ⟨i, h, a, b, c⟩
  · omega
  · have hi : i < l.length := by have := k.1; omega
    rw [h, Int.toNat_natCast, List.findIdx?_eq_some_iff_getElem]
    refine ⟨hi, ?_, fun j hj => ?_⟩
    · rw [k.2 i hi, b]
      exact beq_self_eq_true w
    · have z := c j hj
      rw [← k.2 j (by omega)] at z
      rw [beq_false_of_ne z]
      exact Bool.false_ne_true
theorem LSw.add {l : List Int64} {f g : Nat → Int64} {n m : Int} {w : Int64} (k : LSw l f n) (hm : m = n + 1) (e : g n.toNat = w) (o : ∀ i : Nat, (i : Int) < n → g i = f i) : LSw (l ++ [w]) g m := by
  have h1 := k.1
  refine ⟨by rw [List.length_append]; show ((l.length + 1 : Nat) : Int) = m; omega, fun i h => ?_⟩
  rw [List.length_append] at h
  have h2 : i < l.length + 1 := h
  by_cases c : i < l.length
  · rw [List.getElem_append_left c, k.2 i c, o i (by omega)]
  · have ei : i = n.toNat := by omega
    rw [List.getElem_append_right (by omega)]
    subst ei
    rw [e]
    exact List.getElem_singleton _


abbrev r_x_find2 : Room := { frames := 0, cells := 0, slots := 0, locals := 0 }
abbrev q_x_find2 (D : va_G) (ks : KS) (ad : Nat → Nat) (kk : Nat → ClassId) (V : Vf) (L : Lf) (Z : XZ) (p0 : Int64) (gn : Nat) (A : Nat → Prop) : Array Value → State → Outcome → State → Prop := va_Qi (fun (r : Int32) (_ : Unit) => ((-1) ≤ r.toInt ∧ r.toInt ≤ 23) ∧ (r.toInt < (V 43 gn).toInt) ∧ (NF (fun i => L 44 (24 * gn + i)) (V 43 gn).toInt p0 r.toInt)) (fun _ t => gq D A (xw ad kk V L Z) (xty kk Z) t) A
set_option maxHeartbeats 4000000 in
set_option maxRecDepth 100000 in
theorem x_find2 (l : Launch) (D : va_G) (ks : KS) (sz : Nat) (ad : Nat → Nat) (kk : Nat → ClassId) (V : Vf) (L : Lf) (Z : XZ) (p0 : Int64) (gn : Nat) (hMV : rgd bX V) (hgn : gn < 10)  : Met l yX6_find (Cond.code yX6_find cX6_find 4 (some .int) :: GW) r_x_find2 (va_Pc [.ref (ad (40 + gn)), .long p0] (gp D ks (xw ad kk V L Z) (xty kk Z) sz)) (q_x_find2 D ks ad kk V L Z p0 gn (va_A (xw ad kk V L Z) sz)) 0 0 (va_A (xw ad kk V L Z) sz) := by
  refine g_met (q_x_find2 D ks ad kk V L Z p0 gn) (by decide) (Nat.le_of_ble_eq_true rfl) ?_
  intro p e s m below meth c A ls H locs hx hb hr hml hown hg hlocks hin hnw hgk hP hK hD hS hA hl
  have hown : s.vm.findClass RX6 = some m.cls := hown
  have hl : lv_has ls 4 [(0, .ref (ad (40 + gn))), (1, .long p0)] := hl
  have hP : va_P D vwCl (xw ad kk V L Z) H := hP
  have hD : va_D A (xw ad kk V L Z) := hD
  have hK : va_K D vwCl (xty kk Z) s := hK
  refine lv_iconst (v := 0) hx hb dX6_find_0 (by decide) ?_
  refine lv_istore_n (lv' := [(3, .int 0), (0, .ref (ad (40 + gn))), (1, .long p0)]) hx hb dX6_find_1 rfl hl (by decide) rfl (fun ls hl => ?_)
  have lp2 : ∀ (fulp2 : Nat) (y1 : Int32) (H : Heap) (locs : List Loc) (ls : Array Slot), 0 ≤ y1.toInt ∧ y1.toInt ≤ 24 → y1.toInt ≤ (V 43 gn).toInt → (∀ k : Nat, (k : Int) < y1.toInt → L 44 (24 * gn + k) ≠ p0) → 24 - y1.toInt < (fulp2 : Int) → va_P D vwCl (xw ad kk V L Z) H → va_D A (xw ad kk V L Z) → va_S A s.heap H locs → lv_has ls 4 [(3, .int y1), (0, .ref (ad (40 + gn))), (1, .long p0)] → W p l e r_x_find2 s m ([.ref (ad (40 + gn)), .long p0] : List Value).toArray below meth c H locs 0 0 (MQ below (q_x_find2 D ks ad kk V L Z p0 gn A) ([.ref (ad (40 + gn)), .long p0] : List Value).toArray s 0 0 A) (F0 m 2 ls []) := by
    intro fulp2
    induction fulp2 with
    | zero =>
      intro y1 H locs ls klp2_0 xlp2_0 xlp2_1 hn  hP hD hS hl
      exfalso; (first | exact om_9386ef0df612 klp2_0.2 hn | omega)
    | succ fulp2 ihlp2 =>
      intro y1 H locs ls klp2_0 xlp2_0 xlp2_1 hn  hP hD hS hl
      have r3 : 0 ≤ ((V 43 gn)).toInt ∧ ((V 43 gn)).toInt ≤ ((xcap gn : Nat) : Int) := hMV 43 gn
      have r4 := xcap_le gn
      refine lv_iload_n hx hb dX6_find_2 rfl (lv_at hl 0 rfl) ?_
      refine lv_aload_n hx hb dX6_find_3 rfl (lv_at hl 1 rfl) ?_
      refine va_get (D := D) (ci := 6) (v := .int (V 43 gn)) (fs := (xfNames ad V gn)) (C := RX6) (T := TX6) (N := 2) hx hb hg inX6 hown hK hP (40 + gn) (xgNames hgn) rfl 1 (by decide) (hg _ w480) (fun _ h9 => h9) rfl dX6_find_4 ?_
      refine lv_icmp_ge (tgt := 29) hx hb dX6_find_7 (by decide) (fun c5 => ?_) (fun c5 => ?_)
      · skip
        have f6 : ((V 43 gn)).toInt ≤ y1.toInt := b_le rfl rfl c5
        refine lv_iconst (v := (-1)) hx hb dX6_find_29 (by decide) ?_
        exact W.iret (v := (-1)) hx hb hr (fun t ht hW => ⟨⟨(-1), (), rfl, ⟨(by decide), (show (-1) < (V 43 gn).toInt from by (first | exact om_550cdc110816 r3.1 | omega)), (Or.inl ⟨by decide, fun k hk => xlp2_1 k (by omega)⟩)⟩, by rw [ht]; exact hP, va_K.moved hW.alike hK, hD⟩, hS.F ht⟩) hS.2.2 dX6_find_30
      · skip
        have f7 : y1.toInt < ((V 43 gn)).toInt := b_nle rfl rfl c5
        refine lv_aload_n hx hb dX6_find_10 rfl (lv_at hl 1 rfl) ?_
        refine va_get (D := D) (ci := 6) (v := .ref (ad (50 + gn))) (fs := (xfNames ad V gn)) (C := RX6) (T := TX6) (N := 2) hx hb hg inX6 hown hK hP (40 + gn) (xgNames hgn) rfl 0 (by decide) (hg _ w479) (fun _ h9 => h9) rfl dX6_find_11 ?_
        refine lv_iload_n hx hb dX6_find_14 rfl (lv_at hl 0 rfl) ?_
        refine va_lald (D := D) (i := y1) hx hb hK hP (50 + gn) (43 + gn) (xgwords hgn) (xtwords hgn) (i_in (a := y1.toInt) rfl (by omega)) dX6_find_15 ?_
        have kc8 := i_clamp (x := y1) rfl (by (first | exact om_eafa9039069c klp2_0.1 | omega))
        refine g_topv (v := .long (L 44 (24 * gn + (Int32.toNatClampNeg y1)))) (congrArg Value.long (if_pos (by omega))) ?_
        refine lv_topl (fun w9 ew9 => ?_)
        refine lv_lload_n hx hb dX6_find_16 rfl (lv_at hl 2 rfl) ?_
        refine W.lcmp hx hb dX6_find_17 ?_
        refine lv_topi (fun z10 ez10 => ?_)
        have hz10 := lcmp_f ez10
        refine lv_if_ne (tgt := 23) hx hb dX6_find_18 (by decide) (fun c11 => ?_) (fun c11 => ?_)
        · skip
          have f12 : z10.toInt ≠ 0 := b_neq rfl (by decide) c11
          obtain ⟨z13, ez13⟩ : ∃ y : Int32, y = y1 + 1 := ⟨_, rfl⟩
          have hz13 : z13.toInt = y1.toInt + 1 := i_add ez13 rfl (by decide) (by (first | exact om_e66fa98a5d27 klp2_0.1 klp2_0.2 | omega))
          refine lv_iinc (v := z13) (lv' := [(3, .int z13), (0, .ref (ad (40 + gn))), (1, .long p0)]) hx hb dX6_find_23 hl (k := 0) rfl (by rw [ez13]; rfl) (by decide) rfl (fun ls hl => ?_)
          refine lv_goto (tgt := 2) hx hb dX6_find_26 (by decide) ?_
          exact ihlp2 z13 H locs ls (by (first | exact om_e490a8b17553 klp2_0.1 r3.2 r4.2 f7 hz13 | omega)) (show z13.toInt ≤ (V 43 gn).toInt from by (first | exact om_7fe9249fc074 f7 hz13 | omega)) (fun k h => by by_cases c : (k : Int) < y1.toInt; exact xlp2_1 k c; have ek : k = Int32.toNatClampNeg y1 := (by omega); rw [ek]; intro q; have q2 := congrArg Int64.toInt (ew9.trans q); omega) (by (first | exact om_9592d9319ffa hn hz13 | omega)) hP hD hS (lv_sub hl [0, 1, 2] rfl)
        · skip
          have f14 : z10.toInt = 0 := b_eq rfl (by decide) c11
          refine lv_iload_n hx hb dX6_find_21 rfl (lv_at hl 0 rfl) ?_
          exact W.iret (v := y1) hx hb hr (fun t ht hW => ⟨⟨y1, (), rfl, ⟨(show (-1) ≤ y1.toInt ∧ y1.toInt ≤ 23 from by (first | exact om_38bc297cb60f klp2_0.1 r3.2 r4.2 f7 | omega)), (show y1.toInt < (V 43 gn).toInt from by (first | exact om_0e9116797efb f7 | omega)), (Or.inr ⟨Int32.toNatClampNeg y1, by omega, by omega, ew9.symm.trans (Int64.toInt_inj.mp (by omega)), fun k hk => xlp2_1 k (by omega)⟩)⟩, by rw [ht]; exact hP, va_K.moved hW.alike hK, hD⟩, hS.F ht⟩) hS.2.2 dX6_find_22
  have r15 : Int32.toInt 0 = 0 := by decide
  have r16 : 0 ≤ ((V 43 gn)).toInt ∧ ((V 43 gn)).toInt ≤ ((xcap gn : Nat) : Int) := hMV 43 gn
  have r17 := xcap_le gn
  exact lp2 ((24 - (Int32.toInt 0) + 1 : Int).toNat) 0 H locs ls (by decide) (show (Int32.toInt 0) ≤ (V 43 gn).toInt from by (first | exact om_a51dc5ad8918 r15 r16.1 | omega)) (fun k h => absurd h (by have e0 : Int32.toInt 0 = 0 := (by decide); omega)) (by (first | exact om_817980d3aa47 | omega)) hP hD hS (lv_sub hl [0, 1, 2] rfl)
abbrev r_x_add2 : Room := { frames := 0, cells := 0, slots := 0, locals := 0 }
abbrev q_x_add2 (D : va_G) (ks : KS) (ad : Nat → Nat) (kk : Nat → ClassId) (V : Vf) (L : Lf) (Z : XZ) (p0 : Int64) (gn : Nat) (A : Nat → Prop) : Array Value → State → Outcome → State → Prop := va_Qi (fun (r : Int32) (u : Vf × Lf) => rgd bX u.1 ∧ agr [] [43, 44] V u.1 ∧ agL [44] L u.2 ∧ frX (xN gn) V u.1 ∧ ((-1) ≤ r.toInt ∧ r.toInt ≤ 23) ∧ (r.toInt < (u.1 43 gn).toInt) ∧ (Imp ((V 43 gn).toInt < ((xcap gn : Nat) : Int)) (r.toInt = (V 43 gn).toInt ∧ (u.1 43 gn).toInt = (V 43 gn).toInt + 1)) ∧ (Imp (((xcap gn : Nat) : Int) ≤ (V 43 gn).toInt) (r.toInt = -1 ∧ (u.1 43 gn).toInt = (V 43 gn).toInt)) ∧ (∀ n : Nat, ¬ n = gn → u.1 43 n = V 43 n) ∧ ((r.toInt = -1 ∧ u.2 = L) ∨ (0 ≤ r.toInt ∧ u.2 = upL L 44 (24 * gn + Int32.toNatClampNeg (V 43 gn)) p0))) (fun u t => gq D A (xw ad kk u.1 u.2 Z) (xty kk Z) t) A
set_option maxHeartbeats 4000000 in
set_option maxRecDepth 100000 in
theorem x_add2 (l : Launch) (D : va_G) (ks : KS) (sz : Nat) (ad : Nat → Nat) (kk : Nat → ClassId) (V : Vf) (L : Lf) (Z : XZ) (p0 : Int64) (gn : Nat) (hMV : rgd bX V) (hgn : gn < 10)  : Met l yX6_add (Cond.code yX6_add cX6_add 3 (some .int) :: GW) r_x_add2 (va_Pc [.ref (ad (40 + gn)), .long p0] (gp D ks (xw ad kk V L Z) (xty kk Z) sz)) (q_x_add2 D ks ad kk V L Z p0 gn (va_A (xw ad kk V L Z) sz)) 0 0 (va_A (xw ad kk V L Z) sz) := by
  refine g_met (q_x_add2 D ks ad kk V L Z p0 gn) (by decide) (Nat.le_of_ble_eq_true rfl) ?_
  intro p e s m below meth c A ls H locs hx hb hr hml hown hg hlocks hin hnw hgk hP hK hD hS hA hl
  have hown : s.vm.findClass RX6 = some m.cls := hown
  have hl : lv_has ls 3 [(0, .ref (ad (40 + gn))), (1, .long p0)] := hl
  have hP : va_P D vwCl (xw ad kk V L Z) H := hP
  have hD : va_D A (xw ad kk V L Z) := hD
  have hK : va_K D vwCl (xty kk Z) s := hK
  have agV : agr [] [43, 44] V V := agr.rf
  have alL : agL [44] L L := agL.rf
  have fwV : frX (xN gn) V V := frX.rf
  refine lv_aload_n hx hb dX6_add_0 rfl (lv_at hl 0 rfl) ?_
  refine va_get (D := D) (ci := 6) (v := .int (V 43 gn)) (fs := (xfNames ad V gn)) (C := RX6) (T := TX6) (N := 2) hx hb hg inX6 hown hK hP (40 + gn) (xgNames hgn) rfl 1 (by decide) (hg _ w480) (fun _ h9 => h9) rfl dX6_add_1 ?_
  have r1 : 0 ≤ ((V 43 gn)).toInt ∧ ((V 43 gn)).toInt ≤ ((xcap gn : Nat) : Int) := hMV 43 gn
  have r2 := xcap_le gn
  refine lv_aload_n hx hb dX6_add_4 rfl (lv_at hl 0 rfl) ?_
  refine va_get (D := D) (ci := 6) (v := .ref (ad (50 + gn))) (fs := (xfNames ad V gn)) (C := RX6) (T := TX6) (N := 2) hx hb hg inX6 hown hK hP (40 + gn) (xgNames hgn) rfl 0 (by decide) (hg _ w479) (fun _ h9 => h9) rfl dX6_add_5 ?_
  refine va_alen (D := D) (v := nI (xcap gn)) hx hb hK hP (50 + gn) (43 + gn) (xgwords hgn) (xtwords hgn) rfl dX6_add_8 ?_
  refine lv_topi (fun z4 ez4 => ?_)
  have r5 : z4.toInt = ((xcap gn : Nat) : Int) := by rw [ez4]; exact nI_toInt (by omega)
  refine lv_icmp_lt (tgt := 14) hx hb dX6_add_9 (by decide) (fun c6 => ?_) (fun c6 => ?_)
  · skip
    have f7 : ((V 43 gn)).toInt < z4.toInt := b_lt rfl rfl c6
    refine lv_aload_n hx hb dX6_add_14 rfl (lv_at hl 0 rfl) ?_
    refine va_get (D := D) (ci := 6) (v := .ref (ad (50 + gn))) (fs := (xfNames ad V gn)) (C := RX6) (T := TX6) (N := 2) hx hb hg inX6 hown hK hP (40 + gn) (xgNames hgn) rfl 0 (by decide) (hg _ w479) (fun _ h9 => h9) rfl dX6_add_15 ?_
    refine lv_aload_n hx hb dX6_add_18 rfl (lv_at hl 0 rfl) ?_
    refine va_get (D := D) (ci := 6) (v := .int (V 43 gn)) (fs := (xfNames ad V gn)) (C := RX6) (T := TX6) (N := 2) hx hb hg inX6 hown hK hP (40 + gn) (xgNames hgn) rfl 1 (by decide) (hg _ w480) (fun _ h9 => h9) rfl dX6_add_19 ?_
    refine lv_lload_n hx hb dX6_add_22 rfl (lv_at hl 1 rfl) ?_
    refine va_last (D := D) (i := (V 43 gn)) (x := p0) hx hb hK hP hD hS (50 + gn) (43 + gn) (xgwords hgn) (xtwords hgn) (i_in (a := ((V 43 gn)).toInt) rfl (by omega)) dX6_add_23 (fun H locs hP hD hS => ?_)
    have kc8 := i_clamp (x := (V 43 gn)) rfl (by (first | exact om_eafa9039069c r1.1 | omega))
    have kl9 : (Int32.toNatClampNeg (V 43 gn)) < 24 := by (first | exact om_c4cfbb9c595c r2.2 r5 f7 kc8 | omega)
    obtain ⟨L10, hL10⟩ : ∃ z, z = upL L 44 (24 * gn + (Int32.toNatClampNeg (V 43 gn))) p0 := ⟨_, rfl⟩
    have ew11 : (xw ad kk V L Z).set (50 + gn) ((ad (50 + gn)), .inl ((kk (50 + gn)), xcap gn, .inr (.inl (vp_updL (fun q => if q < 24 then L 44 (24 * gn + q) else 0) (Int32.toNatClampNeg (V 43 gn)) p0)))) = xw ad kk V L10 Z := by rw [hL10]; exact xpwords hgn kl9
    have hP : va_P D vwCl (xw ad kk V L10 Z) H := by rw [← ew11]; exact hP
    have hD : va_D A (xw ad kk V L10 Z) := by rw [← ew11]; exact hD
    have alL10 : agL [44] L L10 := agL.up alL hL10 rfl
    refine lv_aload_n hx hb dX6_add_24 rfl (lv_at hl 0 rfl) ?_
    refine lv_dup hx hb dX6_add_25 rfl ?_
    refine va_get (D := D) (ci := 6) (v := .int (V 43 gn)) (fs := (xfNames ad V gn)) (C := RX6) (T := TX6) (N := 2) hx hb hg inX6 hown hK hP (40 + gn) (xgNames hgn) rfl 1 (by decide) (hg _ w480) (fun _ h9 => h9) rfl dX6_add_26 ?_
    refine lv_dup_x1 hx hb dX6_add_29 rfl rfl ?_
    refine lv_iconst (v := 1) hx hb dX6_add_30 (by decide) ?_
    refine lv_iadd hx hb dX6_add_31 ?_
    refine lv_topi (fun z12 ez12 => ?_)
    have hz12 : z12.toInt = ((V 43 gn)).toInt + 1 := i_add ez12 rfl (by decide) (by (first | exact om_3cef7ac10bbb r1.1 kc8 kl9 | omega))
    refine va_put (D := D) (ci := 6) (v := .int z12) (ty := tyX6 1) (fs := (xfNames ad V gn)) (C := RX6) (T := TX6) (N := 2) hx hb hg inX6 tyX6 tyX6_ok nmX6 hown hK hP hD hS (40 + gn) (xgNames hgn) rfl 1 (by decide) (hg _ w480) (fun _ h9 => h9) rfl (tyX6_ok 1 (by decide)) rfl rfl (Nat.le_of_ble_eq_true rfl) dX6_add_32 (fun H locs hP hD hS => ?_)
    obtain ⟨V13, hV13⟩ : ∃ z, z = up2 V 43 gn z12 := ⟨_, rfl⟩
    have ew14 : (xw ad kk V L10 Z).set (40 + gn) ((ad (40 + gn)), .inr (6, (xfNames ad V gn).set 1 (.int z12))) = xw ad kk V13 L10 Z := by rw [hV13]; exact xpNames_size hgn
    have hP : va_P D vwCl (xw ad kk V13 L10 Z) H := by rw [← ew14]; exact hP
    have hD : va_D A (xw ad kk V13 L10 Z) := by rw [← ew14]; exact hD
    have hMV13 : rgd bX V13 := hMV.put hV13 (show 0 ≤ z12.toInt ∧ z12.toInt ≤ ((xcap gn : Nat) : Int) from by (first | exact om_dd26073c146a r1.1 r5 f7 hz12 | omega))
    have agV13 : agr [] [43, 44] V V13 := agV.up hV13 rfl
    have fwV13 : frX (xN gn) V V13 := frX.up fwV hV13 (Or.inr ⟨(by show gn ≤ gn; (first | exact om_36cf446a3c95 | omega)), (by show gn < gn + 1; (first | exact om_0bb971ab4ffe | omega))⟩)
    have pq15 : (V13 43 gn).toInt = z12.toInt := congrArg Int32.toInt (up2_s hV13)
    have rp16 : ∀ n : Nat, ¬ n = gn → V13 43 n = V 43 n := fun n hn => up2_k hV13 hn
    exact W.iret (v := (V 43 gn)) hx hb hr (fun t ht hW => ⟨⟨(V 43 gn), (V13, L10), rfl, ⟨hMV13, agV13, alL10, fwV13, (show (-1) ≤ ((V 43 gn)).toInt ∧ ((V 43 gn)).toInt ≤ 23 from by (first | exact om_bdc49d49ea67 r1.1 kc8 kl9 | omega)), (show ((V 43 gn)).toInt < (V13 43 gn).toInt from by (first | exact om_8a3bb01c6349 hz12 pq15 | omega)), (Imp.mk (fun hp => have hp : (V 43 gn).toInt < ((xcap gn : Nat) : Int) := hp; (show ((V 43 gn)).toInt = (V 43 gn).toInt ∧ (V13 43 gn).toInt = (V 43 gn).toInt + 1 from by (first | exact om_973282c118df hz12 pq15 | omega)))), (Imp.mk (fun hp => have hp : ((xcap gn : Nat) : Int) ≤ (V 43 gn).toInt := hp; (show ((V 43 gn)).toInt = -1 ∧ (V13 43 gn).toInt = (V 43 gn).toInt from by omega))), rp16, (Or.inr ⟨by omega, hL10⟩)⟩, by rw [ht]; exact hP, va_K.moved hW.alike hK, hD⟩, hS.F ht⟩) hS.2.2 dX6_add_35
  · skip
    have f17 : z4.toInt ≤ ((V 43 gn)).toInt := b_nlt rfl rfl c6
    refine lv_iconst (v := (-1)) hx hb dX6_add_12 (by decide) ?_
    have rp18 : ∀ n : Nat, ¬ n = gn → V 43 n = V 43 n := fun _ _ => rfl
    exact W.iret (v := (-1)) hx hb hr (fun t ht hW => ⟨⟨(-1), (V, L), rfl, ⟨hMV, agV, alL, fwV, (by decide), (show (-1) < (V 43 gn).toInt from by (first | exact om_550cdc110816 r1.1 | omega)), (Imp.mk (fun hp => have hp : (V 43 gn).toInt < ((xcap gn : Nat) : Int) := hp; (show (-1) = (V 43 gn).toInt ∧ (V 43 gn).toInt = (V 43 gn).toInt + 1 from by omega))), (Imp.mk (fun hp => have hp : ((xcap gn : Nat) : Int) ≤ (V 43 gn).toInt := hp; (show (-1) = -1 ∧ (V 43 gn).toInt = (V 43 gn).toInt from by omega))), rp18, (Or.inl ⟨by decide, rfl⟩)⟩, by rw [ht]; exact hP, va_K.moved hW.alike hK, hD⟩, hS.F ht⟩) hS.2.2 dX6_add_13
abbrev r_x_isFull2 : Room := { frames := 0, cells := 0, slots := 0, locals := 0 }
abbrev q_x_isFull2 (D : va_G) (ks : KS) (ad : Nat → Nat) (kk : Nat → ClassId) (V : Vf) (L : Lf) (Z : XZ) (gn : Nat) (A : Nat → Prop) : Array Value → State → Outcome → State → Prop := va_Qi (fun (r : Int32) (_ : Unit) => (0 ≤ r.toInt ∧ r.toInt ≤ 1) ∧ (Imp (r.toInt = 0) ((V 43 gn).toInt < ((xcap gn : Nat) : Int))) ∧ (Imp (r.toInt = 1) (((xcap gn : Nat) : Int) ≤ (V 43 gn).toInt))) (fun _ t => gq D A (xw ad kk V L Z) (xty kk Z) t) A
set_option maxHeartbeats 4000000 in
set_option maxRecDepth 100000 in
theorem x_isFull2 (l : Launch) (D : va_G) (ks : KS) (sz : Nat) (ad : Nat → Nat) (kk : Nat → ClassId) (V : Vf) (L : Lf) (Z : XZ) (gn : Nat) (hMV : rgd bX V) (hgn : gn < 10)  : Met l yX6_isFull (Cond.code yX6_isFull cX6_isFull 1 (some .boolean) :: GW) r_x_isFull2 (va_Pc [.ref (ad (40 + gn))] (gp D ks (xw ad kk V L Z) (xty kk Z) sz)) (q_x_isFull2 D ks ad kk V L Z  gn (va_A (xw ad kk V L Z) sz)) 0 0 (va_A (xw ad kk V L Z) sz) := by
  refine g_met (q_x_isFull2 D ks ad kk V L Z  gn) (by decide) (Nat.le_of_ble_eq_true rfl) ?_
  intro p e s m below meth c A ls H locs hx hb hr hml hown hg hlocks hin hnw hgk hP hK hD hS hA hl
  have hown : s.vm.findClass RX6 = some m.cls := hown
  have hl : lv_has ls 1 [(0, .ref (ad (40 + gn)))] := hl
  have hP : va_P D vwCl (xw ad kk V L Z) H := hP
  have hD : va_D A (xw ad kk V L Z) := hD
  have hK : va_K D vwCl (xty kk Z) s := hK
  refine lv_aload_n hx hb dX6_isFull_0 rfl (lv_at hl 0 rfl) ?_
  refine va_get (D := D) (ci := 6) (v := .int (V 43 gn)) (fs := (xfNames ad V gn)) (C := RX6) (T := TX6) (N := 2) hx hb hg inX6 hown hK hP (40 + gn) (xgNames hgn) rfl 1 (by decide) (hg _ w480) (fun _ h9 => h9) rfl dX6_isFull_1 ?_
  have r1 : 0 ≤ ((V 43 gn)).toInt ∧ ((V 43 gn)).toInt ≤ ((xcap gn : Nat) : Int) := hMV 43 gn
  have r2 := xcap_le gn
  refine lv_aload_n hx hb dX6_isFull_4 rfl (lv_at hl 0 rfl) ?_
  refine va_get (D := D) (ci := 6) (v := .ref (ad (50 + gn))) (fs := (xfNames ad V gn)) (C := RX6) (T := TX6) (N := 2) hx hb hg inX6 hown hK hP (40 + gn) (xgNames hgn) rfl 0 (by decide) (hg _ w479) (fun _ h9 => h9) rfl dX6_isFull_5 ?_
  refine va_alen (D := D) (v := nI (xcap gn)) hx hb hK hP (50 + gn) (43 + gn) (xgwords hgn) (xtwords hgn) rfl dX6_isFull_8 ?_
  refine lv_topi (fun z4 ez4 => ?_)
  have r5 : z4.toInt = ((xcap gn : Nat) : Int) := by rw [ez4]; exact nI_toInt (by omega)
  refine lv_icmp_lt (tgt := 16) hx hb dX6_isFull_9 (by decide) (fun c6 => ?_) (fun c6 => ?_)
  · skip
    have f7 : ((V 43 gn)).toInt < z4.toInt := b_lt rfl rfl c6
    refine lv_iconst (v := 0) hx hb dX6_isFull_16 (by decide) ?_
    exact W.zret (v := 0) hx hb hr rfl (fun t ht hW => ⟨⟨0, (), rfl, ⟨(by decide), (Imp.mk (fun _ => (show (V 43 gn).toInt < ((xcap gn : Nat) : Int) from by (first | exact om_74393bacf057 r5 f7 | omega)))), (Imp.mk (fun hp => absurd hp (by decide)))⟩, by rw [ht]; exact hP, va_K.moved hW.alike hK, hD⟩, hS.F ht⟩) hS.2.2 dX6_isFull_17
  · skip
    have f8 : z4.toInt ≤ ((V 43 gn)).toInt := b_nlt rfl rfl c6
    refine lv_iconst (v := 1) hx hb dX6_isFull_12 (by decide) ?_
    refine lv_goto (tgt := 17) hx hb dX6_isFull_13 (by decide) ?_
    exact W.zret (v := 1) hx hb hr rfl (fun t ht hW => ⟨⟨1, (), rfl, ⟨(by decide), (Imp.mk (fun hp => absurd hp (by decide))), (Imp.mk (fun _ => (show ((xcap gn : Nat) : Int) ≤ (V 43 gn).toInt from by (first | exact om_1c984a86026c r5 f8 | omega))))⟩, by rw [ht]; exact hP, va_K.moved hW.alike hK, hD⟩, hS.F ht⟩) hS.2.2 dX6_isFull_17
end
section

abbrev r_x_wrong2 : Room := { frames := 0, cells := 0, slots := 0, locals := 0 }
abbrev q_x_wrong2 (D : va_G) (ks : KS) (ad : Nat → Nat) (kk : Nat → ClassId) (V : Vf) (L : Lf) (Z : XZ) (p0 : Int32) (A : Nat → Prop) : Array Value → State → Outcome → State → Prop := va_Qi (fun (r : Int32) (u : Vf × Lf) => rgd bX u.1 ∧ agr [(1, 3)] [] V u.1 ∧ u.2 = L ∧ (0 ≤ r.toInt ∧ r.toInt ≤ 0) ∧ (1 ≤ (u.1 1 3).toInt) ∧ ((u.1 1 3).toInt = p0.toInt + 16 * (V 6 10).toInt)) (fun u t => gq D A (xw ad kk u.1 u.2 Z) (xty kk Z) t) A
set_option maxHeartbeats 4000000 in
set_option maxRecDepth 100000 in
theorem x_wrong2 (l : Launch) (D : va_G) (ks : KS) (sz : Nat) (ad : Nat → Nat) (kk : Nat → ClassId) (V : Vf) (L : Lf) (Z : XZ) (p0 : Int32) (hMV : rgd bX V) (rg_p0 : 1 ≤ p0.toInt ∧ p0.toInt ≤ 5)  : Met l yX1_wrong (Cond.code yX1_wrong cX1_wrong 2 (some .boolean) :: GW) r_x_wrong2 (va_Pc [.ref (ad 1), .int p0] (gp D ks (xw ad kk V L Z) (xty kk Z) sz)) (q_x_wrong2 D ks ad kk V L Z p0 (va_A (xw ad kk V L Z) sz)) 0 0 (va_A (xw ad kk V L Z) sz) := by
  refine g_met (q_x_wrong2 D ks ad kk V L Z p0) (by decide) (Nat.le_of_ble_eq_true rfl) ?_
  intro p e s m below meth c A ls H locs hx hb hr hml hown hg hlocks hin hnw hgk hP hK hD hS hA hl
  have hown : s.vm.findClass RX1 = some m.cls := hown
  have hl : lv_has ls 2 [(0, .ref (ad 1)), (1, .int p0)] := hl
  have hP : va_P D vwCl (xw ad kk V L Z) H := hP
  have hD : va_D A (xw ad kk V L Z) := hD
  have hK : va_K D vwCl (xty kk Z) s := hK
  have agV : agr [(1, 3)] [] V V := agr.rf
  refine lv_aload_n hx hb dX1_wrong_0 rfl (lv_at hl 0 rfl) ?_
  refine lv_iload_n hx hb dX1_wrong_1 rfl (lv_at hl 1 rfl) ?_
  refine lv_bipush (v := 16) hx hb dX1_wrong_2 (by decide) ?_
  refine lv_aload_n hx hb dX1_wrong_4 rfl (lv_at hl 0 rfl) ?_
  refine va_get (D := D) (ci := 1) (v := .ref (ad 6)) (fs := (xfReader ad V L Z)) (C := RX1) (T := TX1) (N := 9) hx hb hg inX1 hown hK hP 1 xgReader rfl 0 (by decide) (hg _ w304) (fun _ h9 => h9) rfl dX1_wrong_5 ?_
  refine va_getN (D := D) (ci := 9) (v := .int (V 6 10)) (fs := (xfTape ad V L Z)) (C := RX9) (T := TX9) (N := 12) hx hb hg inX9 hown hK hP 6 xgTape rfl 10 (by decide) (hnw.use 266 n266 rfl) (fun _ h9 => h9) rfl dX1_wrong_8 ?_
  have r1 : 0 ≤ ((V 6 10)).toInt ∧ ((V 6 10)).toInt ≤ 4000 := hMV 6 10
  refine lv_imul hx hb dX1_wrong_11 ?_
  refine lv_topi (fun z2 ez2 => ?_)
  have hz2 : z2.toInt = 16 * ((V 6 10)).toInt := i_mul ez2 (by decide) rfl (by (first | exact om_6843b3d39a18 r1.1 r1.2 | omega))
  refine lv_iadd hx hb dX1_wrong_12 ?_
  refine lv_topi (fun z3 ez3 => ?_)
  have hz3 : z3.toInt = p0.toInt + z2.toInt := i_add ez3 rfl rfl (by (first | exact om_ddbdbfc8487c rg_p0.1 rg_p0.2 r1.1 r1.2 hz2 | omega))
  refine va_put (D := D) (ci := 1) (v := .int z3) (ty := tyX1 3) (fs := (xfReader ad V L Z)) (C := RX1) (T := TX1) (N := 9) hx hb hg inX1 tyX1 tyX1_ok nmX1 hown hK hP hD hS 1 xgReader rfl 3 (by decide) (hg _ w307) (fun _ h9 => h9) rfl (tyX1_ok 3 (by decide)) rfl rfl (Nat.le_of_ble_eq_true rfl) dX1_wrong_13 (fun H locs hP hD hS => ?_)
  obtain ⟨V4, hV4⟩ : ∃ z, z = up2 V 1 3 z3 := ⟨_, rfl⟩
  have ew5 : (xw ad kk V L Z).set 1 ((ad 1), .inr (1, (xfReader ad V L Z).set 3 (.int z3))) = xw ad kk V4 L Z := by rw [hV4]; exact xw_ss (by decide) rfl (xb_si (by decide))
  have hP : va_P D vwCl (xw ad kk V4 L Z) H := by rw [← ew5]; exact hP
  have hD : va_D A (xw ad kk V4 L Z) := by rw [← ew5]; exact hD
  have hMV4 : rgd bX V4 := hMV.put hV4 (i_full _)
  have agV4 : agr [(1, 3)] [] V V4 := agV.up hV4 rfl
  refine lv_iconst (v := 0) hx hb dX1_wrong_16 (by decide) ?_
  have pq6 : (V4 1 3).toInt = z3.toInt := congrArg Int32.toInt (up2_s hV4)
  have pq7 : (V4 6 10).toInt = ((V 6 10)).toInt := congrArg Int32.toInt (up2_o hV4 (by decide))
  exact W.zret (v := 0) hx hb hr rfl (fun t ht hW => ⟨⟨0, (V4, L), rfl, ⟨hMV4, agV4, rfl, (by decide), (show 1 ≤ (V4 1 3).toInt from by (first | exact om_48d376e72754 rg_p0.1 r1.1 hz2 hz3 pq6 | omega)), (show (V4 1 3).toInt = p0.toInt + 16 * (V 6 10).toInt from by (first | exact om_09f46f70eb03 hz2 hz3 pq6 | omega))⟩, by rw [ht]; exact hP, va_K.moved hW.alike hK, hD⟩, hS.F ht⟩) hS.2.2 dX1_wrong_17
abbrev r_x_take2 : Room := { frames := 1, cells := 0, slots := 0, locals := 21 }
abbrev q_x_take2 (D : va_G) (ks : KS) (ad : Nat → Nat) (kk : Nat → ClassId) (V : Vf) (L : Lf) (Z : XZ) (p0 : Int32) (gc : Nat) (A : Nat → Prop) : Array Value → State → Outcome → State → Prop := va_Qi (fun (r : Int32) (u : Vf × Lf) => rgd bX u.1 ∧ agr [(1, 3), (6, 8), (6, 9), (6, 10)] [] V u.1 ∧ agL [6] L u.2 ∧ (0 ≤ r.toInt ∧ r.toInt ≤ 1) ∧ (Imp (r.toInt = 0) (1 ≤ (u.1 1 3).toInt)) ∧ ((r.toInt = 1 ∧ (V 12 gc).toInt = p0.toInt ∧ CUR u.1 u.2 (gc + 1) ∧ u.1 1 3 = V 1 3) ∨ (r.toInt = 0 ∧ (V 12 gc).toInt ≠ p0.toInt ∧ (u.1 1 3).toInt = 1 + 16 * (V 13 gc).toInt))) (fun u t => gq D A (xw ad kk u.1 u.2 Z) (xty kk Z) t) A
set_option maxHeartbeats 4000000 in
set_option maxRecDepth 100000 in
theorem x_take2 (l : Launch) (D : va_G) (ks : KS) (sz : Nat) (ad : Nat → Nat) (kk : Nat → ClassId) (V : Vf) (L : Lf) (Z : XZ) (p0 : Int32) (gc : Nat) (hMV : rgd bX V) (tp1 : CUR V L gc) (tp2 : (V 12 (V 6 7).toInt.toNat).toInt = 0) (tp3 : 1 ≤ p0.toInt)  : Met l yX1_take (Cond.code yX1_take cX1_take 2 (some .boolean) :: GW) r_x_take2 (va_Pc [.ref (ad 1), .int p0] (gp D ks (xw ad kk V L Z) (xty kk Z) sz)) (q_x_take2 D ks ad kk V L Z p0 gc (va_A (xw ad kk V L Z) sz)) 0 0 (va_A (xw ad kk V L Z) sz) := by
  refine g_met (q_x_take2 D ks ad kk V L Z p0 gc) (by decide) (Nat.le_of_ble_eq_true rfl) ?_
  intro p e s m below meth c A ls H locs hx hb hr hml hown hg hlocks hin hnw hgk hP hK hD hS hA hl
  have hown : s.vm.findClass RX1 = some m.cls := hown
  have hl : lv_has ls 2 [(0, .ref (ad 1)), (1, .int p0)] := hl
  have hP : va_P D vwCl (xw ad kk V L Z) H := hP
  have hD : va_D A (xw ad kk V L Z) := hD
  have hK : va_K D vwCl (xty kk Z) s := hK
  have agV : agr [(1, 3), (6, 8), (6, 9), (6, 10)] [] V V := agr.rf
  have alL : agL [6] L L := agL.rf
  refine lv_aload_n hx hb dX1_take_0 rfl (lv_at hl 0 rfl) ?_
  refine va_get (D := D) (ci := 1) (v := .ref (ad 6)) (fs := (xfReader ad V L Z)) (C := RX1) (T := TX1) (N := 9) hx hb hg inX1 hown hK hP 1 xgReader rfl 0 (by decide) (hg _ w304) (fun _ h9 => h9) rfl dX1_take_1 ?_
  refine va_getN (D := D) (ci := 9) (v := .int (V 6 9)) (fs := (xfTape ad V L Z)) (C := RX9) (T := TX9) (N := 12) hx hb hg inX9 hown hK hP 6 xgTape rfl 9 (by decide) (hnw.use 262 n262 rfl) (fun _ h9 => h9) rfl dX1_take_4 ?_
  refine lv_iload_n hx hb dX1_take_7 rfl (lv_at hl 1 rfl) ?_
  refine lv_icmp_eq (tgt := 17) hx hb dX1_take_8 (by decide) (fun c1 => ?_) (fun c1 => ?_)
  · skip
    have f2 : ((V 6 9)).toInt = p0.toInt := b_eq rfl rfl c1
    have hc0 : (gc : Int) < (V 6 7).toInt := Int.lt_iff_le_and_ne.mpr ⟨tp1.1, fun q => by have e : gc = (V 6 7).toInt.toNat := (by omega); have z := tp1.2.1; rw [e] at z; have z2 := congrArg Int32.toInt z; omega⟩
    have hlk : (V 6 8).toInt = (gc : Int) + 1 := by have z := tp1.2.2.2.2; rw [if_pos hc0] at z; exact z
    refine lv_aload_n hx hb dX1_take_17 rfl (lv_at hl 0 rfl) ?_
    refine va_get (D := D) (ci := 1) (v := .ref (ad 6)) (fs := (xfReader ad V L Z)) (C := RX1) (T := TX1) (N := 9) hx hb hg inX1 hown hK hP 1 xgReader rfl 0 (by decide) (hg _ w304) (fun _ h9 => h9) rfl dX1_take_18 ?_
    have r3 : 0 ≤ ((V 6 8)).toInt ∧ ((V 6 8)).toInt ≤ 4000 := hMV 6 8
    have r4 : 0 ≤ ((V 6 7)).toInt ∧ ((V 6 7)).toInt ≤ 4000 := hMV 6 7
    refine gA_void (gA_runV (As := []) (rest := []) (ci := 9) (q0 := 6) hx hb hml hown hg hP hD hK hS hA hnw hgk (x_next2 l D ks H.size ad kk V L Z  hMV (show (V 6 8).toInt ≤ (V 6 7).toInt from by first | exact om_77b3130ca834 hc0 hlk | first | omega | ((try (have i_tp2 := Imp.go tp2 (by omega))); (try (have i_tp1 := Imp.go tp1 (by omega))); (try (have i_tp1 := Imp.go tp1 (by omega))); (try (have i_tp2 := Imp.go tp2 (by omega))); omega))) w871 w852 w853 w157 w854 rfl xgTape hdV_yX9_next ⟨Nat.le_of_ble_eq_true rfl, Nat.le_of_ble_eq_true rfl⟩ rfl hl.1 rfl (Nat.le_of_ble_eq_true rfl) dX1_take_21 ⟨Nat.le_of_ble_eq_true rfl, Nat.le_of_ble_eq_true rfl⟩) hP hD hK hS hA (fun u6 H locs w7 hP hD hK hS => ?_)
    obtain ⟨V10, L11⟩ := u6
    obtain ⟨hMV10, ajV10, axL11, t8, t9⟩ := w7
    have alL11 : agL [6] L L11 := agL.tr alL axL11 (by decide)
    have hP : va_P D vwCl (xw ad kk V10 L11 Z) H := hP
    have hD : va_D A (xw ad kk V10 L11 Z) := hD
    have hMV10 : rgd bX V10 := hMV10
    have ajV10 : agr [(6, 8), (6, 9), (6, 10)] [] V V10 := ajV10
    have agV10 : agr [(1, 3), (6, 8), (6, 9), (6, 10)] [] V V10 := agV.tr ajV10 (by decide) (by decide)
    have t8 : (V10 6 8).toInt ≤ (V10 6 7).toInt := t8
    have t9 : CUR V10 L11 (Int32.toNatClampNeg (V 6 8)) := t9
    have r12 : 0 ≤ ((V10 6 8)).toInt ∧ ((V10 6 8)).toInt ≤ 4000 := hMV10 6 8
    have pq13 : (V10 6 7).toInt = ((V 6 7)).toInt := congrArg Int32.toInt (ajV10 6 7 rfl)
    refine lv_iconst (v := 1) hx hb dX1_take_24 (by decide) ?_
    have pq14 : (V10 1 3).toInt = ((V 1 3)).toInt := congrArg Int32.toInt (ajV10 1 3 rfl)
    have ek : Int32.toNatClampNeg (V 6 8) = gc + 1 := by have q := i_clamp (x := V 6 8) rfl (by (first | exact om_8c87f7281688 hlk | omega)); (first | exact om_c8ebb9144044 hlk q | omega)
    exact W.zret (v := 1) hx hb hr rfl (fun t ht hW => ⟨⟨1, (V10, L11), rfl, ⟨hMV10, agV10, alL11, (by decide), (Imp.mk (fun hp => absurd hp (by decide))), (Or.inl ⟨by decide, by rw [← tp1.2.1]; omega, by rw [← ek]; exact t9, (ajV10 1 3 rfl)⟩)⟩, by rw [ht]; exact hP, va_K.moved hW.alike hK, hD⟩, hS.F ht⟩) hS.2.2 dX1_take_25
  · skip
    have f15 : ((V 6 9)).toInt ≠ p0.toInt := b_neq rfl rfl c1
    refine lv_aload_n hx hb dX1_take_11 rfl (lv_at hl 0 rfl) ?_
    refine lv_iconst (v := 1) hx hb dX1_take_12 (by decide) ?_
    have r16 : Int32.toInt 1 = 1 := by decide
    refine gA_int (gA_runV (As := [.int 1]) (rest := []) (ci := 1) (q0 := 1) hx hb hml hown hg hP hD hK hS hA hnw hgk (x_wrong2 l D ks H.size ad kk V L Z 1 hMV (by decide)) w867 w869 w6 w162 w870 rfl xgReader hdV_yX1_wrong ⟨Nat.le_of_ble_eq_true rfl, Nat.le_of_ble_eq_true rfl⟩ rfl hl.1 rfl (Nat.le_of_ble_eq_true rfl) dX1_take_13 ⟨Nat.le_of_ble_eq_true rfl, Nat.le_of_ble_eq_true rfl⟩) hP hD hK hS hA (fun z17 u18 H locs w19 hP hD hK hS => ?_)
    obtain ⟨V22, L23⟩ := u18
    obtain ⟨hMV22, ajV22, axL23, rgz17, t20, t21⟩ := w19
    have axL23 : L = L23 := Eq.symm axL23
    subst axL23
    have hP : va_P D vwCl (xw ad kk V22 L Z) H := hP
    have hD : va_D A (xw ad kk V22 L Z) := hD
    have hMV22 : rgd bX V22 := hMV22
    have ajV22 : agr [(1, 3)] [] V V22 := ajV22
    have agV22 : agr [(1, 3), (6, 8), (6, 9), (6, 10)] [] V V22 := agV.tr ajV22 (by decide) (by decide)
    have rgz17 : 0 ≤ z17.toInt ∧ z17.toInt ≤ 0 := rgz17
    have t20 : 1 ≤ (V22 1 3).toInt := t20
    have t21 : (V22 1 3).toInt = (Int32.toInt 1) + 16 * (V 6 10).toInt := t21
    have r24 : 0 ≤ ((V 6 10)).toInt ∧ ((V 6 10)).toInt ≤ 4000 := hMV 6 10
    exact W.zret (v := z17) hx hb hr (nb_ok (by omega)) (fun t ht hW => ⟨⟨z17, (V22, L), rfl, ⟨hMV22, agV22, alL, (show 0 ≤ z17.toInt ∧ z17.toInt ≤ 1 from by first | exact om_641b3f05f166 rgz17.1 rgz17.2 | first | omega | ((try (have i_tp2 := Imp.go tp2 (by omega))); (try (have i_tp1 := Imp.go tp1 (by omega))); (try (have i_tp1 := Imp.go tp1 (by omega))); (try (have i_tp2 := Imp.go tp2 (by omega))); omega)), (Imp.mk (fun hp => have hp : z17.toInt = 0 := hp; (show 1 ≤ (V22 1 3).toInt from by first | exact om_f8d8213eda45 t20 | first | omega | ((try (have i_tp2 := Imp.go tp2 (by omega))); (try (have i_tp1 := Imp.go tp1 (by omega))); (try (have i_tp1 := Imp.go tp1 (by omega))); (try (have i_tp2 := Imp.go tp2 (by omega))); omega)))), (Or.inr ⟨by omega, by rw [← tp1.2.1]; omega, by rw [← tp1.2.2.1]; omega⟩)⟩, by rw [ht]; exact hP, va_K.moved hW.alike hK, hD⟩, hS.F ht⟩) hS.2.2 dX1_take_16
abbrev r_x_takeNumber2 : Room := { frames := 1, cells := 0, slots := 0, locals := 21 }
abbrev q_x_takeNumber2 (D : va_G) (ks : KS) (ad : Nat → Nat) (kk : Nat → ClassId) (V : Vf) (L : Lf) (Z : XZ) (p0 : Int32) (p1 : Int32) (gc : Nat) (A : Nat → Prop) : Array Value → State → Outcome → State → Prop := va_Qi (fun (r : Int32) (u : Vf × Lf) => rgd bX u.1 ∧ agr [(1, 3), (1, 8), (6, 8), (6, 9), (6, 10)] [] V u.1 ∧ agL [6] L u.2 ∧ (0 ≤ r.toInt ∧ r.toInt ≤ 1) ∧ (Imp (r.toInt = 1) (p0.toInt ≤ (u.1 1 8).toInt ∧ (u.1 1 8).toInt ≤ p1.toInt)) ∧ (Imp (r.toInt = 0) (1 ≤ (u.1 1 3).toInt)) ∧ ((r.toInt = 1 ∧ (V 12 gc).toInt = 2 ∧ p0.toInt ≤ (L 14 gc).toInt ∧ (L 14 gc).toInt ≤ p1.toInt ∧ CUR u.1 u.2 (gc + 1) ∧ (u.1 1 8).toInt = (L 14 gc).toInt ∧ u.1 1 3 = V 1 3) ∨ (r.toInt = 0 ∧ (((V 12 gc).toInt ≠ 2 ∧ (u.1 1 3).toInt = 1 + 16 * (V 13 gc).toInt) ∨ ((V 12 gc).toInt = 2 ∧ ((L 14 gc).toInt < p0.toInt ∨ p1.toInt < (L 14 gc).toInt) ∧ (u.1 1 3).toInt = 4 + 16 * (V 13 gc).toInt))))) (fun u t => gq D A (xw ad kk u.1 u.2 Z) (xty kk Z) t) A
set_option maxHeartbeats 4000000 in
set_option maxRecDepth 100000 in
theorem x_takeNumber2 (l : Launch) (D : va_G) (ks : KS) (sz : Nat) (ad : Nat → Nat) (kk : Nat → ClassId) (V : Vf) (L : Lf) (Z : XZ) (p0 : Int32) (p1 : Int32) (gc : Nat) (hMV : rgd bX V) (tp1 : CUR V L gc) (tp2 : (V 12 (V 6 7).toInt.toNat).toInt = 0) (y1 : 0 ≤ p0.toInt) (y2 : p1.toInt ≤ 999999999)  : Met l yX1_takeNumber (Cond.code yX1_takeNumber cX1_takeNumber 3 (some .boolean) :: GW) r_x_takeNumber2 (va_Pc [.ref (ad 1), .int p0, .int p1] (gp D ks (xw ad kk V L Z) (xty kk Z) sz)) (q_x_takeNumber2 D ks ad kk V L Z p0 p1 gc (va_A (xw ad kk V L Z) sz)) 0 0 (va_A (xw ad kk V L Z) sz) := by
  refine g_met (q_x_takeNumber2 D ks ad kk V L Z p0 p1 gc) (by decide) (Nat.le_of_ble_eq_true rfl) ?_
  intro p e s m below meth c A ls H locs hx hb hr hml hown hg hlocks hin hnw hgk hP hK hD hS hA hl
  have hown : s.vm.findClass RX1 = some m.cls := hown
  have hl : lv_has ls 3 [(0, .ref (ad 1)), (1, .int p0), (2, .int p1)] := hl
  have hP : va_P D vwCl (xw ad kk V L Z) H := hP
  have hD : va_D A (xw ad kk V L Z) := hD
  have hK : va_K D vwCl (xty kk Z) s := hK
  have agV : agr [(1, 3), (1, 8), (6, 8), (6, 9), (6, 10)] [] V V := agr.rf
  have alL : agL [6] L L := agL.rf
  have rf_p0 := i_full p0
  have rf_p1 := i_full p1
  refine lv_aload_n hx hb dX1_takeNumber_0 rfl (lv_at hl 0 rfl) ?_
  refine va_get (D := D) (ci := 1) (v := .ref (ad 6)) (fs := (xfReader ad V L Z)) (C := RX1) (T := TX1) (N := 9) hx hb hg inX1 hown hK hP 1 xgReader rfl 0 (by decide) (hg _ w304) (fun _ h9 => h9) rfl dX1_takeNumber_1 ?_
  refine va_getN (D := D) (ci := 9) (v := .int (V 6 9)) (fs := (xfTape ad V L Z)) (C := RX9) (T := TX9) (N := 12) hx hb hg inX9 hown hK hP 6 xgTape rfl 9 (by decide) (hnw.use 262 n262 rfl) (fun _ h9 => h9) rfl dX1_takeNumber_4 ?_
  refine lv_iconst (v := 2) hx hb dX1_takeNumber_7 (by decide) ?_
  refine lv_icmp_eq (tgt := 17) hx hb dX1_takeNumber_8 (by decide) (fun c1 => ?_) (fun c1 => ?_)
  · skip
    have f2 : ((V 6 9)).toInt = 2 := b_eq rfl (by decide) c1
    refine lv_aload_n hx hb dX1_takeNumber_17 rfl (lv_at hl 0 rfl) ?_
    refine va_get (D := D) (ci := 1) (v := .ref (ad 6)) (fs := (xfReader ad V L Z)) (C := RX1) (T := TX1) (N := 9) hx hb hg inX1 hown hK hP 1 xgReader rfl 0 (by decide) (hg _ w304) (fun _ h9 => h9) rfl dX1_takeNumber_18 ?_
    refine va_getN (D := D) (ci := 9) (v := .long (L 6 11)) (fs := (xfTape ad V L Z)) (C := RX9) (T := TX9) (N := 12) hx hb hg inX9 hown hK hP 6 xgTape rfl 11 (by decide) (hnw.use 269 n269 rfl) (fun _ h9 => h9) rfl dX1_takeNumber_21 ?_
    refine lv_iload_n hx hb dX1_takeNumber_24 rfl (lv_at hl 1 rfl) ?_
    refine lv_i2l hx hb dX1_takeNumber_25 rfl ?_
    refine lv_topl (fun w3 ew3 => ?_)
    have hw3 : w3.toInt = p0.toInt := i2l_f ew3 rfl
    refine W.lcmp hx hb dX1_takeNumber_26 ?_
    refine lv_topi (fun z4 ez4 => ?_)
    have hz4 := lcmp_f ez4
    refine lv_if_lt (tgt := 43) hx hb dX1_takeNumber_27 (by decide) (fun c5 => ?_) (fun c5 => ?_)
    · skip
      have f6 : z4.toInt < 0 := b_lt rfl (by decide) c5
      refine lv_aload_n hx hb dX1_takeNumber_43 rfl (lv_at hl 0 rfl) ?_
      refine lv_iconst (v := 4) hx hb dX1_takeNumber_44 (by decide) ?_
      have r7 : Int32.toInt 4 = 4 := by decide
      refine gA_int (gA_runV (As := [.int 4]) (rest := []) (ci := 1) (q0 := 1) hx hb hml hown hg hP hD hK hS hA hnw hgk (x_wrong2 l D ks H.size ad kk V L Z 4 hMV (by decide)) w867 w869 w6 w162 w870 rfl xgReader hdV_yX1_wrong ⟨Nat.le_of_ble_eq_true rfl, Nat.le_of_ble_eq_true rfl⟩ rfl hl.1 rfl (Nat.le_of_ble_eq_true rfl) dX1_takeNumber_45 ⟨Nat.le_of_ble_eq_true rfl, Nat.le_of_ble_eq_true rfl⟩) hP hD hK hS hA (fun z8 u9 H locs w10 hP hD hK hS => ?_)
      obtain ⟨V13, L14⟩ := u9
      obtain ⟨hMV13, ajV13, axL14, rgz8, t11, t12⟩ := w10
      have axL14 : L = L14 := Eq.symm axL14
      subst axL14
      have hP : va_P D vwCl (xw ad kk V13 L Z) H := hP
      have hD : va_D A (xw ad kk V13 L Z) := hD
      have hMV13 : rgd bX V13 := hMV13
      have ajV13 : agr [(1, 3)] [] V V13 := ajV13
      have agV13 : agr [(1, 3), (1, 8), (6, 8), (6, 9), (6, 10)] [] V V13 := agV.tr ajV13 (by decide) (by decide)
      have rgz8 : 0 ≤ z8.toInt ∧ z8.toInt ≤ 0 := rgz8
      have t11 : 1 ≤ (V13 1 3).toInt := t11
      have t12 : (V13 1 3).toInt = (Int32.toInt 4) + 16 * (V 6 10).toInt := t12
      have r15 : 0 ≤ ((V 6 10)).toInt ∧ ((V 6 10)).toInt ≤ 4000 := hMV 6 10
      have pq16 : (V13 1 8).toInt = ((V 1 8)).toInt := congrArg Int32.toInt (ajV13 1 8 rfl)
      have r17 : 0 ≤ ((V 1 8)).toInt ∧ ((V 1 8)).toInt ≤ 999999999 := hMV 1 8
      have xv18 : (L 6 11).toInt = (L 14 gc).toInt := congrArg Int64.toInt tp1.2.2.2.1
      have xv19 : (V 6 9).toInt = (V 12 gc).toInt := congrArg Int32.toInt tp1.2.1
      have xv20 : (V 6 10).toInt = (V 13 gc).toInt := congrArg Int32.toInt tp1.2.2.1
      exact W.zret (v := z8) hx hb hr (nb_ok (by omega)) (fun t ht hW => ⟨⟨z8, (V13, L), rfl, ⟨hMV13, agV13, alL, (show 0 ≤ z8.toInt ∧ z8.toInt ≤ 1 from by first | exact om_641b3f05f166 rgz8.1 rgz8.2 | first | omega | ((try (have i_tp2 := Imp.go tp2 (by omega))); (try (have i_tp1 := Imp.go tp1 (by omega))); (try (have i_tp1 := Imp.go tp1 (by omega))); (try (have i_tp2 := Imp.go tp2 (by omega))); omega)), (Imp.mk (fun hp => have hp : z8.toInt = 1 := hp; (show p0.toInt ≤ (V13 1 8).toInt ∧ (V13 1 8).toInt ≤ p1.toInt from by first | omega | ((try (have i_tp2 := Imp.go tp2 (by omega))); (try (have i_tp1 := Imp.go tp1 (by omega))); (try (have i_tp1 := Imp.go tp1 (by omega))); (try (have i_tp2 := Imp.go tp2 (by omega))); omega)))), (Imp.mk (fun hp => have hp : z8.toInt = 0 := hp; (show 1 ≤ (V13 1 3).toInt from by first | exact om_ec74b5de4d5c r7 t12 r15.1 | first | omega | ((try (have i_tp2 := Imp.go tp2 (by omega))); (try (have i_tp1 := Imp.go tp1 (by omega))); (try (have i_tp1 := Imp.go tp1 (by omega))); (try (have i_tp2 := Imp.go tp2 (by omega))); omega)))), (Or.inr ⟨by omega, Or.inr ⟨by omega, by omega, by omega⟩⟩)⟩, by rw [ht]; exact hP, va_K.moved hW.alike hK, hD⟩, hS.F ht⟩) hS.2.2 dX1_takeNumber_48
    · skip
      have f21 : 0 ≤ z4.toInt := b_nlt rfl (by decide) c5
      refine lv_aload_n hx hb dX1_takeNumber_30 rfl (lv_at hl 0 rfl) ?_
      refine va_get (D := D) (ci := 1) (v := .ref (ad 6)) (fs := (xfReader ad V L Z)) (C := RX1) (T := TX1) (N := 9) hx hb hg inX1 hown hK hP 1 xgReader rfl 0 (by decide) (hg _ w304) (fun _ h9 => h9) rfl dX1_takeNumber_31 ?_
      refine va_getN (D := D) (ci := 9) (v := .long (L 6 11)) (fs := (xfTape ad V L Z)) (C := RX9) (T := TX9) (N := 12) hx hb hg inX9 hown hK hP 6 xgTape rfl 11 (by decide) (hnw.use 269 n269 rfl) (fun _ h9 => h9) rfl dX1_takeNumber_34 ?_
      refine lv_iload_n hx hb dX1_takeNumber_37 rfl (lv_at hl 2 rfl) ?_
      refine lv_i2l hx hb dX1_takeNumber_38 rfl ?_
      refine lv_topl (fun w22 ew22 => ?_)
      have hw22 : w22.toInt = p1.toInt := i2l_f ew22 rfl
      refine W.lcmp hx hb dX1_takeNumber_39 ?_
      refine lv_topi (fun z23 ez23 => ?_)
      have hz23 := lcmp_f ez23
      refine lv_if_le (tgt := 49) hx hb dX1_takeNumber_40 (by decide) (fun c24 => ?_) (fun c24 => ?_)
      · skip
        have f25 : z23.toInt ≤ 0 := b_le rfl (by decide) c24
        have hc0 : (gc : Int) < (V 6 7).toInt := Int.lt_iff_le_and_ne.mpr ⟨tp1.1, fun q => by have e : gc = (V 6 7).toInt.toNat := (by omega); have z := tp1.2.1; rw [e] at z; have z2 := congrArg Int32.toInt z; omega⟩
        have hlk : (V 6 8).toInt = (gc : Int) + 1 := by have z := tp1.2.2.2.2; rw [if_pos hc0] at z; exact z
        refine lv_aload_n hx hb dX1_takeNumber_49 rfl (lv_at hl 0 rfl) ?_
        refine lv_aload_n hx hb dX1_takeNumber_50 rfl (lv_at hl 0 rfl) ?_
        refine va_get (D := D) (ci := 1) (v := .ref (ad 6)) (fs := (xfReader ad V L Z)) (C := RX1) (T := TX1) (N := 9) hx hb hg inX1 hown hK hP 1 xgReader rfl 0 (by decide) (hg _ w304) (fun _ h9 => h9) rfl dX1_takeNumber_51 ?_
        refine va_getN (D := D) (ci := 9) (v := .long (L 6 11)) (fs := (xfTape ad V L Z)) (C := RX9) (T := TX9) (N := 12) hx hb hg inX9 hown hK hP 6 xgTape rfl 11 (by decide) (hnw.use 269 n269 rfl) (fun _ h9 => h9) rfl dX1_takeNumber_54 ?_
        refine lv_l2i hx hb dX1_takeNumber_57 rfl ?_
        refine lv_topi (fun z26 ez26 => ?_)
        have hz26 := l2i_f ez26
        refine va_put (D := D) (ci := 1) (v := .int z26) (ty := tyX1 8) (fs := (xfReader ad V L Z)) (C := RX1) (T := TX1) (N := 9) hx hb hg inX1 tyX1 tyX1_ok nmX1 hown hK hP hD hS 1 xgReader rfl 8 (by decide) (hg _ w312) (fun _ h9 => h9) rfl (tyX1_ok 8 (by decide)) rfl rfl (Nat.le_of_ble_eq_true rfl) dX1_takeNumber_58 (fun H locs hP hD hS => ?_)
        obtain ⟨V27, hV27⟩ : ∃ z, z = up2 V 1 8 z26 := ⟨_, rfl⟩
        have ew28 : (xw ad kk V L Z).set 1 ((ad 1), .inr (1, (xfReader ad V L Z).set 8 (.int z26))) = xw ad kk V27 L Z := by rw [hV27]; exact xw_ss (by decide) rfl (xb_si (by decide))
        have hP : va_P D vwCl (xw ad kk V27 L Z) H := by rw [← ew28]; exact hP
        have hD : va_D A (xw ad kk V27 L Z) := by rw [← ew28]; exact hD
        have hMV27 : rgd bX V27 := hMV.put hV27 (show 0 ≤ z26.toInt ∧ z26.toInt ≤ 999999999 from by first | omega | ((try (have i_hz26 := Imp.go hz26 (by omega))); (try (have i_tp2 := Imp.go tp2 (by omega))); (try (have i_tp1 := Imp.go tp1 (by omega))); (try (have i_tp1 := Imp.go tp1 (by omega))); (try (have i_tp2 := Imp.go tp2 (by omega))); (try (have i_hz26 := Imp.go hz26 (by omega))); omega))
        have agV27 : agr [(1, 3), (1, 8), (6, 8), (6, 9), (6, 10)] [] V V27 := agV.up hV27 rfl
        refine lv_aload_n hx hb dX1_takeNumber_61 rfl (lv_at hl 0 rfl) ?_
        refine va_get (D := D) (ci := 1) (v := .ref (ad 6)) (fs := (xfReader ad V27 L Z)) (C := RX1) (T := TX1) (N := 9) hx hb hg inX1 hown hK hP 1 xgReader rfl 0 (by decide) (hg _ w304) (fun _ h9 => h9) rfl dX1_takeNumber_62 ?_
        have pq29 : (V27 6 8).toInt = ((V 6 8)).toInt := congrArg Int32.toInt (up2_o hV27 (by decide))
        have r30 : 0 ≤ ((V 6 8)).toInt ∧ ((V 6 8)).toInt ≤ 4000 := hMV 6 8
        have pq31 : (V27 6 7).toInt = ((V 6 7)).toInt := congrArg Int32.toInt (up2_o hV27 (by decide))
        have r32 : 0 ≤ ((V 6 7)).toInt ∧ ((V 6 7)).toInt ≤ 4000 := hMV 6 7
        refine gA_void (gA_runV (As := []) (rest := []) (ci := 9) (q0 := 6) hx hb hml hown hg hP hD hK hS hA hnw hgk (x_next2 l D ks H.size ad kk V27 L Z  hMV27 (show (V27 6 8).toInt ≤ (V27 6 7).toInt from by first | exact om_3c03d7db969c hc0 hlk pq29 pq31 | first | omega | ((try (have i_hz26 := Imp.go hz26 (by omega))); (try (have i_tp2 := Imp.go tp2 (by omega))); (try (have i_tp1 := Imp.go tp1 (by omega))); (try (have i_tp1 := Imp.go tp1 (by omega))); (try (have i_tp2 := Imp.go tp2 (by omega))); (try (have i_hz26 := Imp.go hz26 (by omega))); omega))) w871 w852 w853 w157 w854 rfl xgTape hdV_yX9_next ⟨Nat.le_of_ble_eq_true rfl, Nat.le_of_ble_eq_true rfl⟩ rfl hl.1 rfl (Nat.le_of_ble_eq_true rfl) dX1_takeNumber_65 ⟨Nat.le_of_ble_eq_true rfl, Nat.le_of_ble_eq_true rfl⟩) hP hD hK hS hA (fun u34 H locs w35 hP hD hK hS => ?_)
        obtain ⟨V38, L39⟩ := u34
        obtain ⟨hMV38, ajV38, axL39, t36, t37⟩ := w35
        have alL39 : agL [6] L L39 := agL.tr alL axL39 (by decide)
        have hP : va_P D vwCl (xw ad kk V38 L39 Z) H := hP
        have hD : va_D A (xw ad kk V38 L39 Z) := hD
        have hMV38 : rgd bX V38 := hMV38
        have ajV38 : agr [(6, 8), (6, 9), (6, 10)] [] V27 V38 := ajV38
        have agV38 : agr [(1, 3), (1, 8), (6, 8), (6, 9), (6, 10)] [] V V38 := agV27.tr ajV38 (by decide) (by decide)
        have t36 : (V38 6 8).toInt ≤ (V38 6 7).toInt := t36
        have t37 : CUR V38 L39 (Int32.toNatClampNeg (V27 6 8)) := t37
        have r40 : 0 ≤ ((V38 6 8)).toInt ∧ ((V38 6 8)).toInt ≤ 4000 := hMV38 6 8
        have pq41 : (V38 6 7).toInt = ((V 6 7)).toInt := congrArg Int32.toInt ((ajV38 6 7 rfl).trans (up2_o hV27 (by decide)))
        refine lv_iconst (v := 1) hx hb dX1_takeNumber_68 (by decide) ?_
        have pq42 : (V38 1 8).toInt = z26.toInt := congrArg Int32.toInt ((ajV38 1 8 rfl).trans (up2_s hV27))
        have pq43 : (V38 1 3).toInt = ((V 1 3)).toInt := congrArg Int32.toInt ((ajV38 1 3 rfl).trans (up2_k hV27 (by decide)))
        have xv44 : (L 6 11).toInt = (L 14 gc).toInt := congrArg Int64.toInt tp1.2.2.2.1
        have xv45 : (V 6 9).toInt = (V 12 gc).toInt := congrArg Int32.toInt tp1.2.1
        have xv46 : (V 6 10).toInt = (V 13 gc).toInt := congrArg Int32.toInt tp1.2.2.1
        have ek : Int32.toNatClampNeg (V27 6 8) = gc + 1 := by have q9 : V27 6 8 = V 6 8 := (by rw [(up2_fo hV27 (by decide) : V27 6 = V 6)]); rw [q9]; have q := i_clamp (x := V 6 8) rfl (by (first | exact om_8c87f7281688 hlk | omega)); omega
        exact W.zret (v := 1) hx hb hr rfl (fun t ht hW => ⟨⟨1, (V38, L39), rfl, ⟨hMV38, agV38, alL39, (by decide), (Imp.mk (fun _ => (show p0.toInt ≤ (V38 1 8).toInt ∧ (V38 1 8).toInt ≤ p1.toInt from by first | omega | ((try (have i_hz26 := Imp.go hz26 (by omega))); (try (have i_tp2 := Imp.go tp2 (by omega))); (try (have i_tp1 := Imp.go tp1 (by omega))); (try (have i_tp1 := Imp.go tp1 (by omega))); (try (have i_tp2 := Imp.go tp2 (by omega))); (try (have i_hz26 := Imp.go hz26 (by omega))); omega)))), (Imp.mk (fun hp => absurd hp (by decide))), (Or.inl ⟨by decide, by omega, by omega, by omega, by rw [← ek]; exact t37, by show (V38 1 8).toInt = _; first | omega | ((try (have i_hz26 := Imp.go hz26 (by omega))); (try (have i_tp2 := Imp.go tp2 (by omega))); (try (have i_tp1 := Imp.go tp1 (by omega))); (try (have i_tp1 := Imp.go tp1 (by omega))); (try (have i_tp2 := Imp.go tp2 (by omega))); (try (have i_hz26 := Imp.go hz26 (by omega))); omega), ((ajV38 1 3 rfl).trans (up2_k hV27 (by decide)))⟩)⟩, by rw [ht]; exact hP, va_K.moved hW.alike hK, hD⟩, hS.F ht⟩) hS.2.2 dX1_takeNumber_69
      · skip
        have f47 : 0 < z23.toInt := b_nle rfl (by decide) c24
        refine lv_aload_n hx hb dX1_takeNumber_43 rfl (lv_at hl 0 rfl) ?_
        refine lv_iconst (v := 4) hx hb dX1_takeNumber_44 (by decide) ?_
        have r48 : Int32.toInt 4 = 4 := by decide
        refine gA_int (gA_runV (As := [.int 4]) (rest := []) (ci := 1) (q0 := 1) hx hb hml hown hg hP hD hK hS hA hnw hgk (x_wrong2 l D ks H.size ad kk V L Z 4 hMV (by decide)) w867 w869 w6 w162 w870 rfl xgReader hdV_yX1_wrong ⟨Nat.le_of_ble_eq_true rfl, Nat.le_of_ble_eq_true rfl⟩ rfl hl.1 rfl (Nat.le_of_ble_eq_true rfl) dX1_takeNumber_45 ⟨Nat.le_of_ble_eq_true rfl, Nat.le_of_ble_eq_true rfl⟩) hP hD hK hS hA (fun z49 u50 H locs w51 hP hD hK hS => ?_)
        obtain ⟨V54, L55⟩ := u50
        obtain ⟨hMV54, ajV54, axL55, rgz49, t52, t53⟩ := w51
        have axL55 : L = L55 := Eq.symm axL55
        subst axL55
        have hP : va_P D vwCl (xw ad kk V54 L Z) H := hP
        have hD : va_D A (xw ad kk V54 L Z) := hD
        have hMV54 : rgd bX V54 := hMV54
        have ajV54 : agr [(1, 3)] [] V V54 := ajV54
        have agV54 : agr [(1, 3), (1, 8), (6, 8), (6, 9), (6, 10)] [] V V54 := agV.tr ajV54 (by decide) (by decide)
        have rgz49 : 0 ≤ z49.toInt ∧ z49.toInt ≤ 0 := rgz49
        have t52 : 1 ≤ (V54 1 3).toInt := t52
        have t53 : (V54 1 3).toInt = (Int32.toInt 4) + 16 * (V 6 10).toInt := t53
        have r56 : 0 ≤ ((V 6 10)).toInt ∧ ((V 6 10)).toInt ≤ 4000 := hMV 6 10
        have pq57 : (V54 1 8).toInt = ((V 1 8)).toInt := congrArg Int32.toInt (ajV54 1 8 rfl)
        have r58 : 0 ≤ ((V 1 8)).toInt ∧ ((V 1 8)).toInt ≤ 999999999 := hMV 1 8
        have xv59 : (L 6 11).toInt = (L 14 gc).toInt := congrArg Int64.toInt tp1.2.2.2.1
        have xv60 : (V 6 9).toInt = (V 12 gc).toInt := congrArg Int32.toInt tp1.2.1
        have xv61 : (V 6 10).toInt = (V 13 gc).toInt := congrArg Int32.toInt tp1.2.2.1
        exact W.zret (v := z49) hx hb hr (nb_ok (by omega)) (fun t ht hW => ⟨⟨z49, (V54, L), rfl, ⟨hMV54, agV54, alL, (show 0 ≤ z49.toInt ∧ z49.toInt ≤ 1 from by first | exact om_641b3f05f166 rgz49.1 rgz49.2 | first | omega | ((try (have i_tp2 := Imp.go tp2 (by omega))); (try (have i_tp1 := Imp.go tp1 (by omega))); (try (have i_tp1 := Imp.go tp1 (by omega))); (try (have i_tp2 := Imp.go tp2 (by omega))); omega)), (Imp.mk (fun hp => have hp : z49.toInt = 1 := hp; (show p0.toInt ≤ (V54 1 8).toInt ∧ (V54 1 8).toInt ≤ p1.toInt from by first | omega | ((try (have i_tp2 := Imp.go tp2 (by omega))); (try (have i_tp1 := Imp.go tp1 (by omega))); (try (have i_tp1 := Imp.go tp1 (by omega))); (try (have i_tp2 := Imp.go tp2 (by omega))); omega)))), (Imp.mk (fun hp => have hp : z49.toInt = 0 := hp; (show 1 ≤ (V54 1 3).toInt from by first | exact om_ec74b5de4d5c r48 t53 r56.1 | first | omega | ((try (have i_tp2 := Imp.go tp2 (by omega))); (try (have i_tp1 := Imp.go tp1 (by omega))); (try (have i_tp1 := Imp.go tp1 (by omega))); (try (have i_tp2 := Imp.go tp2 (by omega))); omega)))), (Or.inr ⟨by omega, Or.inr ⟨by omega, by omega, by omega⟩⟩)⟩, by rw [ht]; exact hP, va_K.moved hW.alike hK, hD⟩, hS.F ht⟩) hS.2.2 dX1_takeNumber_48
  · skip
    have f62 : ((V 6 9)).toInt ≠ 2 := b_neq rfl (by decide) c1
    refine lv_aload_n hx hb dX1_takeNumber_11 rfl (lv_at hl 0 rfl) ?_
    refine lv_iconst (v := 1) hx hb dX1_takeNumber_12 (by decide) ?_
    have r63 : Int32.toInt 1 = 1 := by decide
    refine gA_int (gA_runV (As := [.int 1]) (rest := []) (ci := 1) (q0 := 1) hx hb hml hown hg hP hD hK hS hA hnw hgk (x_wrong2 l D ks H.size ad kk V L Z 1 hMV (by decide)) w867 w869 w6 w162 w870 rfl xgReader hdV_yX1_wrong ⟨Nat.le_of_ble_eq_true rfl, Nat.le_of_ble_eq_true rfl⟩ rfl hl.1 rfl (Nat.le_of_ble_eq_true rfl) dX1_takeNumber_13 ⟨Nat.le_of_ble_eq_true rfl, Nat.le_of_ble_eq_true rfl⟩) hP hD hK hS hA (fun z64 u65 H locs w66 hP hD hK hS => ?_)
    obtain ⟨V69, L70⟩ := u65
    obtain ⟨hMV69, ajV69, axL70, rgz64, t67, t68⟩ := w66
    have axL70 : L = L70 := Eq.symm axL70
    subst axL70
    have hP : va_P D vwCl (xw ad kk V69 L Z) H := hP
    have hD : va_D A (xw ad kk V69 L Z) := hD
    have hMV69 : rgd bX V69 := hMV69
    have ajV69 : agr [(1, 3)] [] V V69 := ajV69
    have agV69 : agr [(1, 3), (1, 8), (6, 8), (6, 9), (6, 10)] [] V V69 := agV.tr ajV69 (by decide) (by decide)
    have rgz64 : 0 ≤ z64.toInt ∧ z64.toInt ≤ 0 := rgz64
    have t67 : 1 ≤ (V69 1 3).toInt := t67
    have t68 : (V69 1 3).toInt = (Int32.toInt 1) + 16 * (V 6 10).toInt := t68
    have r71 : 0 ≤ ((V 6 10)).toInt ∧ ((V 6 10)).toInt ≤ 4000 := hMV 6 10
    have pq72 : (V69 1 8).toInt = ((V 1 8)).toInt := congrArg Int32.toInt (ajV69 1 8 rfl)
    have r73 : 0 ≤ ((V 1 8)).toInt ∧ ((V 1 8)).toInt ≤ 999999999 := hMV 1 8
    have xv74 : (L 6 11).toInt = (L 14 gc).toInt := congrArg Int64.toInt tp1.2.2.2.1
    have xv75 : (V 6 9).toInt = (V 12 gc).toInt := congrArg Int32.toInt tp1.2.1
    have xv76 : (V 6 10).toInt = (V 13 gc).toInt := congrArg Int32.toInt tp1.2.2.1
    exact W.zret (v := z64) hx hb hr (nb_ok (by omega)) (fun t ht hW => ⟨⟨z64, (V69, L), rfl, ⟨hMV69, agV69, alL, (show 0 ≤ z64.toInt ∧ z64.toInt ≤ 1 from by first | exact om_641b3f05f166 rgz64.1 rgz64.2 | first | omega | ((try (have i_tp2 := Imp.go tp2 (by omega))); (try (have i_tp1 := Imp.go tp1 (by omega))); (try (have i_tp1 := Imp.go tp1 (by omega))); (try (have i_tp2 := Imp.go tp2 (by omega))); omega)), (Imp.mk (fun hp => have hp : z64.toInt = 1 := hp; (show p0.toInt ≤ (V69 1 8).toInt ∧ (V69 1 8).toInt ≤ p1.toInt from by first | omega | ((try (have i_tp2 := Imp.go tp2 (by omega))); (try (have i_tp1 := Imp.go tp1 (by omega))); (try (have i_tp1 := Imp.go tp1 (by omega))); (try (have i_tp2 := Imp.go tp2 (by omega))); omega)))), (Imp.mk (fun hp => have hp : z64.toInt = 0 := hp; (show 1 ≤ (V69 1 3).toInt from by first | exact om_f8d8213eda45 t67 | first | omega | ((try (have i_tp2 := Imp.go tp2 (by omega))); (try (have i_tp1 := Imp.go tp1 (by omega))); (try (have i_tp1 := Imp.go tp1 (by omega))); (try (have i_tp2 := Imp.go tp2 (by omega))); omega)))), (Or.inr ⟨by omega, Or.inl ⟨by omega, by omega⟩⟩)⟩, by rw [ht]; exact hP, va_K.moved hW.alike hK, hD⟩, hS.F ht⟩) hS.2.2 dX1_takeNumber_16
end
section
def bt (x : Int32) (i : Nat) : Bool := x.toBitVec.getLsbD i
theorem b_ext {x y : Int32} (h : ∀ i, i < 32 → bt x i = bt y i) : x = y := Int32.toBitVec_inj.mp (BitVec.eq_of_getLsbD_eq (fun i hi => h i hi))
theorem b_or (x y : Int32) (i : Nat) : bt (x ||| y) i = (bt x i || bt y i) := by unfold bt; rw [Int32.toBitVec_or, BitVec.getLsbD_or]
theorem b_and (x y : Int32) (i : Nat) : bt (x &&& y) i = (bt x i && bt y i) := by unfold bt; rw [Int32.toBitVec_and, BitVec.getLsbD_and]
theorem b_0 (i : Nat) : bt 0 i = false := BitVec.getLsbD_zero
theorem s_l : ∀ n, n < 32 → ((nI n &&& 31).toBitVec.smod 32).toNat = n := by decide +kernel
theorem b_shl (n : Nat) (hn : n < 32) (x : Int32) {i : Nat} (hi : i < 32) : bt (x <<< (nI n &&& 31)) i = (decide (n ≤ i) && bt x (i - n)) := by
  unfold bt
  rw [Int32.toBitVec_shiftLeft]
  show (x.toBitVec <<< ((nI n &&& 31).toBitVec.smod 32).toNat).getLsbD i = _
  rw [s_l n hn, BitVec.getLsbD_shiftLeft]
  rcases Nat.lt_or_ge i n with h | h
  · simp [h, Nat.not_le.mpr h]
  · simp [hi, h, Nat.not_lt.mpr h]
theorem b_sshr (n : Nat) (hn : n < 32) (x : Int32) {i : Nat} (hi : i < 32) : bt (x >>> (nI n &&& 31)) i = if n + i < 32 then bt x (n + i) else bt x 31 := by
  unfold bt
  rw [Int32.toBitVec_shiftRight]
  show (x.toBitVec.sshiftRight ((nI n &&& 31).toBitVec.smod 32).toNat).getLsbD i = _
  rw [s_l n hn, BitVec.getLsbD_sshiftRight, BitVec.msb_eq_getLsbD_last]
  simp [hi]
/-! the class's reader beside the machine -/
def TkC (V : Vf) (L : Lf) (T : Tk) : Prop := (V 12 (V 6 7).toInt.toNat).toInt = 0 ∧ (∀ j, T.1 j = (V 12 j).toInt) ∧ (∀ j, T.2.1 j = L 14 j) ∧ (∀ j, T.2.2 j = (V 13 j).toInt) ∧ (V 1 3).toInt = 0
def TBc (V : Vf) (L : Lf) (b : Nat) (s : St) : Prop := ∀ j, j < 5 → LSw (s.2.1 j) (fun i => L 44 (24 * (5 * b + j) + i)) (V 43 (5 * b + j)).toInt
def WRc (V : Vf) (b : Nat) (s : St) : Prop := (s.2.2.1.length : Int) = (V 41 b).toInt ∧ ∀ i (h : i < s.2.2.1.length), 0 ≤ (V 63 (12 * b + i)).toInt ∧ s.2.2.1[i] = ((V 63 (12 * b + i)).toInt.toNat, decide ((V 65 (12 * b + i)).toInt = 1))
def OWr (V : Vf) (o : Nat) (s : St) : Prop := (V 49 o).toInt = ((s.1 1 : Nat) : Int) ∧ ((V 56 o).toInt = -1 ↔ s.1 2 ≠ 1) ∧ ((V 57 o).toInt = -1 ↔ s.1 3 ≠ 1) ∧ s.1 4 = 0 ∧ ∀ f, f < 20 → ((V 61 (20 * o + f)).toInt ≠ -1 ↔ f ∈ s.2.2.2)
def OWc (V : Vf) (s : St) : Prop := 0 ≤ (V 1 2).toInt → OWr V (Int32.toNatClampNeg (V 1 2)) s
def RelC (V : Vf) (L : Lf) (b : Nat) (T : Tk) (s : St) : Prop := CUR V L (s.1 0) ∧ TkC V L T ∧ TBc V L b s ∧ WRc V b s ∧ OWc V s
theorem RelC.kd {V : Vf} {L : Lf} {b : Nat} {T : Tk} {s : St} (h : RelC V L b T s) : T.1 (s.1 0) = (V 6 9).toInt := by rw [h.2.1.2.1, h.1.2.1]
theorem RelC.st {V : Vf} {L : Lf} {b : Nat} {T : Tk} {s : St} (h : RelC V L b T s) : T.2.2 (s.1 0) = (V 6 10).toInt := by rw [h.2.1.2.2.2.1, h.1.2.2.1]
theorem RelC.vl {V : Vf} {L : Lf} {b : Nat} {T : Tk} {s : St} (h : RelC V L b T s) : T.2.1 (s.1 0) = L 6 11 := by rw [h.2.1.2.2.1, h.1.2.2.2.1]
theorem RelC.e4 {V : Vf} {L : Lf} {b : Nat} {T : Tk} {s : St} (h : RelC V L b T s) (m : (V 6 7).toInt ≤ 4000) (k : (4000 : Int) ≤ ((s.1 0 : Nat) : Int)) : T.1 (s.1 0) = 0 := by
  have a := h.1.1
  have e : s.1 0 = (V 6 7).toInt.toNat := by omega
  rw [h.2.1.2.1, e]
  exact h.2.1.1
/-- which cells may be written while nothing of the above changes -/
def okC (fs : List (Nat × Nat)) (cs : List Nat) : Bool := cs.all (fun c => !([1, 6, 12, 13, 41, 43, 49, 56, 57, 61, 63, 65].contains c)) && fs.all (fun x => !([(6, 7), (6, 8), (6, 9), (6, 10), (1, 2), (1, 3)].contains x) && decide (x.1 ≤ 6))
/-- .. but the token at hand -/
def okN (fs : List (Nat × Nat)) (cs : List Nat) : Bool := cs.all (fun c => !([1, 6, 12, 13, 41, 43, 49, 56, 57, 61, 63, 65].contains c)) && fs.all (fun x => !([(6, 7), (1, 2)].contains x) && decide (x.1 ≤ 6))
/-- .. but the sizes of tables -/
def okA (fs : List (Nat × Nat)) (cs : List Nat) : Bool := cs.all (fun c => !([1, 6, 12, 13, 41, 49, 56, 57, 61, 63, 65].contains c)) && fs.all (fun x => !([(6, 7), (6, 8), (6, 9), (6, 10), (1, 2), (1, 3)].contains x) && decide (x.1 ≤ 6))
theorem ok_use {fs : List (Nat × Nat)} {cs : List Nat} {V W : Vf} {X : List Nat} {Y : List (Nat × Nat)} (a : agr fs cs V W) (h : (cs.all (fun c => !(X.contains c)) && fs.all (fun x => !(Y.contains x) && decide (x.1 ≤ 6))) = true) {x k : Nat} (hx : X.contains x = true) (hy : 6 < x ∨ Y.contains (x, k) = true) : W x k = V x k := by
  refine a x k ?_
  unfold wrL
  rw [Bool.and_eq_true, List.all_eq_true, List.all_eq_true] at h
  rw [Bool.or_eq_false_iff]
  refine ⟨?_, ?_⟩
  · rw [← Bool.not_eq_true]
    intro q
    have z := h.2 _ (List.contains_iff_mem.mp q)
    rw [Bool.and_eq_true] at z
    have z2 : x ≤ 6 := of_decide_eq_true z.2
    rcases hy with hy | hy
    · omega
    · have z1 := z.1
      rw [hy] at z1
      exact absurd z1 (by decide)
  · rw [← Bool.not_eq_true]
    intro q
    have z := h.1 _ (List.contains_iff_mem.mp q)
    rw [hx] at z
    exact absurd z (by decide)
def okLs (ls : List Nat) : Bool := !ls.contains 6 && !ls.contains 14 && !ls.contains 44
def okM (ls : List Nat) : Bool := !ls.contains 14 && !ls.contains 44
theorem okLs.use {ls : List Nat} {L M : Lf} (a : agL ls L M) (h : okLs ls = true) : M 6 = L 6 ∧ M 14 = L 14 ∧ M 44 = L 44 := by
  unfold okLs at h
  rw [Bool.and_eq_true, Bool.and_eq_true, Bool.not_eq_true', Bool.not_eq_true', Bool.not_eq_true'] at h
  exact ⟨funext (fun k => a 6 k h.1.1), funext (fun k => a 14 k h.1.2), funext (fun k => a 44 k h.2)⟩
theorem okM.use {ls : List Nat} {L M : Lf} (a : agL ls L M) (h : okM ls = true) : M 14 = L 14 ∧ M 44 = L 44 := by
  unfold okM at h
  rw [Bool.and_eq_true, Bool.not_eq_true', Bool.not_eq_true'] at h
  exact ⟨funext (fun k => a 14 k h.1), funext (fun k => a 44 k h.2)⟩
theorem CUR.ag {V W : Vf} {L M : Lf} {c : Nat} (h : CUR V L c) (e7 : W 6 7 = V 6 7) (e8 : W 6 8 = V 6 8) (e9 : W 6 9 = V 6 9) (e10 : W 6 10 = V 6 10) (e12 : W 12 = V 12) (e13 : W 13 = V 13) (m6 : M 6 = L 6) (m14 : M 14 = L 14) : CUR W M c := by
  unfold CUR at h ⊢
  rw [e7, e8, e9, e10, e12, e13, m6, m14]
  exact h
theorem TkC.ag {V W : Vf} {L M : Lf} {T : Tk} (h : TkC V L T) (e7 : W 6 7 = V 6 7) (e12 : W 12 = V 12) (e13 : W 13 = V 13) (m14 : M 14 = L 14) (e3 : W 1 3 = V 1 3) : TkC W M T := by
  unfold TkC at h ⊢
  rw [e7, e12, e13, m14, e3]
  exact h
theorem TBc.ag {V W : Vf} {L M : Lf} {b : Nat} {s s' : St} (h : TBc V L b s) (e43 : W 43 = V 43) (m44 : M 44 = L 44) (es : s'.2.1 = s.2.1) : TBc W M b s' := by
  unfold TBc at h ⊢
  rw [e43, m44, es]
  exact h
theorem WRc.ag {V W : Vf} {b : Nat} {s s' : St} (h : WRc V b s) (e41 : W 41 = V 41) (e63 : W 63 = V 63) (e65 : W 65 = V 65) (es : s'.2.2.1 = s.2.2.1) : WRc W b s' := by
  unfold WRc at h ⊢
  rw [e41, e63, e65]
  obtain ⟨a, b1, l, d⟩ := s
  obtain ⟨a', b1', l', d'⟩ := s'
  have e : l' = l := es
  subst e
  exact h
theorem OWr.ag {V W : Vf} {o : Nat} {s s' : St} (h : OWr V o s) (e49 : W 49 = V 49) (e56 : W 56 = V 56) (e57 : W 57 = V 57) (e61 : W 61 = V 61) (es : ∀ i, 1 ≤ i → s'.1 i = s.1 i) (et : s'.2.2.2 = s.2.2.2) : OWr W o s' := by
  unfold OWr at h ⊢
  rw [e49, e56, e57, e61, es 1 (by decide), es 2 (by decide), es 3 (by decide), es 4 (by decide), et]
  exact h
theorem RelC.ag {V W : Vf} {L M : Lf} {b : Nat} {T : Tk} {s : St} {fs : List (Nat × Nat)} {cs ls : List Nat} (h : RelC V L b T s) (a : agr fs cs V W) (k : okC fs cs = true) (m : agL ls L M) (j : okLs ls = true) : RelC W M b T s := by
  have u := okLs.use m j
  have e12 : W 12 = V 12 := funext fun q => ok_use a k (x := 12) rfl (Or.inl (by decide))
  have e13 : W 13 = V 13 := funext fun q => ok_use a k (x := 13) rfl (Or.inl (by decide))
  have e7 : W 6 7 = V 6 7 := ok_use a k rfl (Or.inr rfl)
  have e2 : W 1 2 = V 1 2 := ok_use a k rfl (Or.inr rfl)
  refine ⟨h.1.ag e7 (ok_use a k rfl (Or.inr rfl)) (ok_use a k rfl (Or.inr rfl)) (ok_use a k rfl (Or.inr rfl)) e12 e13 u.1 u.2.1, h.2.1.ag e7 e12 e13 u.2.1 (ok_use a k rfl (Or.inr rfl)), h.2.2.1.ag (funext fun q => ok_use a k (x := 43) rfl (Or.inl (by decide))) u.2.2 rfl, h.2.2.2.1.ag (funext fun q => ok_use a k (x := 41) rfl (Or.inl (by decide))) (funext fun q => ok_use a k (x := 63) rfl (Or.inl (by decide))) (funext fun q => ok_use a k (x := 65) rfl (Or.inl (by decide))) rfl, ?_⟩
  intro q
  rw [e2] at q ⊢
  exact (h.2.2.2.2 q).ag (funext fun q => ok_use a k (x := 49) rfl (Or.inl (by decide))) (funext fun q => ok_use a k (x := 56) rfl (Or.inl (by decide))) (funext fun q => ok_use a k (x := 57) rfl (Or.inl (by decide))) (funext fun q => ok_use a k (x := 61) rfl (Or.inl (by decide))) (fun _ _ => rfl) rfl
/-- what the takers and the readers of E's leave -/
def keepS (s : St) (n : Nat) (s' : St) : Prop := s.1 0 + n ≤ s'.1 0 ∧ (∀ i, 1 ≤ i → s'.1 i = s.1 i) ∧ (∀ j, j < 3 → s'.2.1 j = s.2.1 j) ∧ s'.2.2 = s.2.2
theorem keepS.rf {s : St} : keepS s 0 s := ⟨Nat.le_refl _, fun _ _ => rfl, fun _ _ => rfl, rfl⟩
theorem keepS.tr {s a c : St} {n m : Nat} (h : keepS s n a) (k : keepS a m c) : keepS s (n + m) c :=
  ⟨by have := h.1; have := k.1; omega, fun i hi => (k.2.1 i hi).trans (h.2.1 i hi), fun j hj => (k.2.2.1 j hj).trans (h.2.2.1 j hj), k.2.2.2.trans h.2.2.2⟩
theorem keepS.le {s a : St} {n m : Nat} (h : keepS s n a) (k : m ≤ n) : keepS s m a := ⟨by have := h.1; omega, h.2⟩
theorem nx_i (s : St) (n : Nat) {i : Nat} (h : 1 ≤ i) : (nx s n).1 i = s.1 i := upN_o _ _ _ (by omega)
theorem keepS.n1 {s : St} (n : Nat) : keepS s n (nx s n) := ⟨Nat.le_refl _, fun _ hi => nx_i s n hi, fun _ _ => rfl, rfl⟩
theorem keepS.nA {s : St} {j : Nat} {w : Int64} (h : 3 ≤ j) : keepS s 1 (sA (nx s 1) j w) := ⟨Nat.le_refl _, fun _ hi => nx_i s 1 hi, fun i hi => if_neg (by omega), rfl⟩
theorem RelC.nx1 {V W : Vf} {L M : Lf} {b : Nat} {T : Tk} {s : St} {fs : List (Nat × Nat)} {cs ls : List Nat} (h : RelC V L b T s) (a : agr fs cs V W) (k : okN fs cs = true) (m : agL ls L M) (j : okM ls = true) (c : CUR W M (s.1 0 + 1)) (e3 : W 1 3 = V 1 3) : RelC W M b T (nx s 1) := by
  have u := okM.use m j
  have e12 : W 12 = V 12 := funext fun q => ok_use a k (x := 12) rfl (Or.inl (by decide))
  have e13 : W 13 = V 13 := funext fun q => ok_use a k (x := 13) rfl (Or.inl (by decide))
  have e7 : W 6 7 = V 6 7 := ok_use a k rfl (Or.inr rfl)
  have e2 : W 1 2 = V 1 2 := ok_use a k rfl (Or.inr rfl)
  refine ⟨c, h.2.1.ag e7 e12 e13 u.1 e3, h.2.2.1.ag (funext fun q => ok_use a k (x := 43) rfl (Or.inl (by decide))) u.2 rfl, h.2.2.2.1.ag (funext fun q => ok_use a k (x := 41) rfl (Or.inl (by decide))) (funext fun q => ok_use a k (x := 63) rfl (Or.inl (by decide))) (funext fun q => ok_use a k (x := 65) rfl (Or.inl (by decide))) rfl, ?_⟩
  intro q
  rw [e2] at q ⊢
  exact (h.2.2.2.2 q).ag (funext fun q => ok_use a k (x := 49) rfl (Or.inl (by decide))) (funext fun q => ok_use a k (x := 56) rfl (Or.inl (by decide))) (funext fun q => ok_use a k (x := 57) rfl (Or.inl (by decide))) (funext fun q => ok_use a k (x := 61) rfl (Or.inl (by decide))) (fun _ hi => nx_i s 1 hi) rfl
/-- the token at hand isn't the end: the next one is the next -/
theorem RelC.lk {V : Vf} {L : Lf} {b : Nat} {T : Tk} {s : St} (h : RelC V L b T s) (kn : (V 6 9).toInt ≠ 0) : Int32.toNatClampNeg (V 6 8) = s.1 0 + 1 := by
  have a := h.1
  have n1 : ((s.1 0 : Nat) : Int) < (V 6 7).toInt := by
    have z := a.1
    rcases Int.lt_or_eq_of_le z with q | q
    · exact q
    · exfalso
      apply kn
      have e : s.1 0 = (V 6 7).toInt.toNat := by omega
      rw [a.2.1, e]
      exact h.2.1.1
  have z := a.2.2.2.2
  rw [if_pos n1] at z
  have := i_clamp (x := V 6 8) rfl (by omega)
  omega
theorem RelC.tok {V : Vf} {L : Lf} {b : Nat} {T : Tk} {s : St} (h : RelC V L b T s) : T.1 (s.1 0) = (V 12 (s.1 0)).toInt ∧ T.2.1 (s.1 0) = L 14 (s.1 0) ∧ T.2.2 (s.1 0) = (V 13 (s.1 0)).toInt := ⟨h.2.1.2.1 _, h.2.1.2.2.1 _, h.2.1.2.2.2.1 _⟩
/-- a name more -/
theorem RelC.add {V W : Vf} {L M : Lf} {b : Nat} {T : Tk} {s : St} {fs : List (Nat × Nat)} {cs : List Nat} {j : Nat} {w : Int64} (h : RelC V L b T s) (hj : j < 5) (a : agr fs cs V W) (k : okA fs cs = true) (o : ∀ n : Nat, ¬ n = 5 * b + j → W 43 n = V 43 n) (n1 : (W 43 (5 * b + j)).toInt = (V 43 (5 * b + j)).toInt + 1) (e : M = upL L 44 (24 * (5 * b + j) + Int32.toNatClampNeg (V 43 (5 * b + j))) w) (hc : ∀ n, 0 ≤ (V 43 n).toInt ∧ (V 43 n).toInt ≤ 24) (hl : (V 43 (5 * b + j)).toInt < 24) : RelC W M b T (sA s j w) := by
  have e12 : W 12 = V 12 := funext fun q => ok_use a k (x := 12) rfl (Or.inl (by decide))
  have e13 : W 13 = V 13 := funext fun q => ok_use a k (x := 13) rfl (Or.inl (by decide))
  have e7 : W 6 7 = V 6 7 := ok_use a k rfl (Or.inr rfl)
  have e2 : W 1 2 = V 1 2 := ok_use a k rfl (Or.inr rfl)
  have m6 : M 6 = L 6 := upL_o e (by decide)
  have m14 : M 14 = L 14 := upL_o e (by decide)
  have kc := i_clamp (x := V 43 (5 * b + j)) rfl (hc _).1
  refine ⟨h.1.ag e7 (ok_use a k rfl (Or.inr rfl)) (ok_use a k rfl (Or.inr rfl)) (ok_use a k rfl (Or.inr rfl)) e12 e13 m6 m14, h.2.1.ag e7 e12 e13 m14 (ok_use a k rfl (Or.inr rfl)), ?_, h.2.2.2.1.ag (funext fun q => ok_use a k (x := 41) rfl (Or.inl (by decide))) (funext fun q => ok_use a k (x := 63) rfl (Or.inl (by decide))) (funext fun q => ok_use a k (x := 65) rfl (Or.inl (by decide))) rfl, ?_⟩
  · intro i hi
    have t := h.2.2.1 i hi
    by_cases q : i = j
    · subst q
      show LSw (if i = i then s.2.1 i ++ [w] else s.2.1 i) _ _
      rw [if_pos rfl]
      refine t.add n1 ?_ (fun x hx => ?_)
      · have ex : 24 * (5 * b + i) + (V 43 (5 * b + i)).toInt.toNat = 24 * (5 * b + i) + Int32.toNatClampNeg (V 43 (5 * b + i)) := by omega
        show M 44 (24 * (5 * b + i) + (V 43 (5 * b + i)).toInt.toNat) = w
        rw [ex]
        exact upL_s e
      · show M 44 (24 * (5 * b + i) + x) = L 44 (24 * (5 * b + i) + x)
        rw [e]
        unfold upL vp_updL
        rw [if_pos rfl, if_neg (by omega)]
    · show LSw (if i = j then s.2.1 i ++ [w] else s.2.1 i) _ _
      rw [if_neg q, o (5 * b + i) (by omega)]
      refine ⟨t.1, fun x hx => ?_⟩
      have z := t.1
      have z2 := hc (5 * b + i)
      rw [t.2 x hx]
      show L 44 (24 * (5 * b + i) + x) = M 44 (24 * (5 * b + i) + x)
      rw [e]
      unfold upL vp_updL
      rw [if_pos rfl, if_neg (by omega)]
  · intro q
    rw [e2] at q ⊢
    exact (h.2.2.2.2 q).ag (funext fun q => ok_use a k (x := 49) rfl (Or.inl (by decide))) (funext fun q => ok_use a k (x := 56) rfl (Or.inl (by decide))) (funext fun q => ok_use a k (x := 57) rfl (Or.inl (by decide))) (funext fun q => ok_use a k (x := 61) rfl (Or.inl (by decide))) (fun _ _ => rfl) rfl
/-! what a reading method answers -/
abbrev Rd (T : Tk) (s : St) (inn out : List It → List It) (r flt : Int) (P : St → Prop) : Prop := (r = 1 ∧ ∃ s' : St, (∀ k, Rc T (Crun s (inn k)) (Crun s' (out k))) ∧ P s') ∨ (r = 0 ∧ ∀ k, Rc T (Crun s (inn k)) (Cbad flt))
abbrev KcN (F : (Nat → Cf) → Cf) (r flt : Int) (P : Nat → Prop) : Prop := (r = 1 ∧ ∃ x : Nat, (∀ kk, F kk = kk x) ∧ P x) ∨ (r = 0 ∧ ∀ kk, F kk = Cbad flt)
abbrev KcW (F : (Int64 → Cf) → Cf) (r flt : Int) (P : Int64 → Prop) : Prop := (r = 1 ∧ ∃ x : Int64, (∀ kk, F kk = kk x) ∧ P x) ∨ (r = 0 ∧ ∀ kk, F kk = Cbad flt)
abbrev KcS (F : (Nat × St → Cf) → Cf) (r flt : Int) (P : Nat × St → Prop) : Prop := (r = 1 ∧ ∃ x : Nat × St, (∀ kk, F kk = kk x) ∧ P x) ∨ (r = 0 ∧ ∀ kk, F kk = Cbad flt)
theorem fl_eq {T : Tk} {s : St} {c F x : Int} (h : T.2.2 (s.1 0) = x) (e : F = c + 16 * x) : fl T s c = Cbad F := by
  unfold fl
  rw [h, e]
theorem Rc.go1 {T : Tk} {a b c : Cf} (h : Rc T a b) (e : mst T b = c) : Rc T a c := h.tr (Rc.one e Rc.rf)
theorem RelC.l8 {V : Vf} {L : Lf} {b : Nat} {T : Tk} {s : St} (h : RelC V L b T s) : (V 6 8).toInt ≤ (V 6 7).toInt := by
  have a := h.1.1
  have z := h.1.2.2.2.2
  by_cases c : ((s.1 0 : Nat) : Int) < (V 6 7).toInt
  · rw [if_pos c] at z
    omega
  · rw [if_neg c] at z
    omega
theorem fnd_y {V : Vf} {L : Lf} {b j : Nat} {s : St} {w : Int64} {r : Int} (hb : TBc V L b s) (h : NF (fun i => L 44 (24 * (5 * b + j) + i)) (V 43 (5 * b + j)).toInt w r) (hj : j < 5) (q : 0 ≤ r) : fndI (s.2.1 j) w = some r.toNat := h.yes (hb j hj) q
theorem fnd_n {V : Vf} {L : Lf} {b j : Nat} {s : St} {w : Int64} {r : Int} (hb : TBc V L b s) (h : NF (fun i => L 44 (24 * (5 * b + j) + i)) (V 43 (5 * b + j)).toInt w r) (hj : j < 5) (q : r = -1) : fndI (s.2.1 j) w = none := h.no (hb j hj) q
theorem told_0 {s : St} {w : Int64} (a : fndI (s.2.1 0) w = none) (c : fndI (s.2.1 1) w = none) (d : fndI (s.2.1 2) w = none) : isTold s w = false := by unfold isTold; rw [a, c, d]; rfl
theorem told_1 {s : St} {w : Int64} {f : Nat} (a : fndI (s.2.1 0) w = some f) : isTold s w = true := by unfold isTold; rw [a]; rfl
theorem told_2 {s : St} {w : Int64} {f : Nat} (a : fndI (s.2.1 0) w = none) (c : fndI (s.2.1 1) w = some f) : isTold s w = true := by unfold isTold; rw [a, c]; rfl
theorem told_3 {s : St} {w : Int64} {f : Nat} (a : fndI (s.2.1 0) w = none) (c : fndI (s.2.1 1) w = none) (d : fndI (s.2.1 2) w = some f) : isTold s w = true := by unfold isTold; rw [a, c, d]; rfl
theorem RelC.add0 {V W : Vf} {L M : Lf} {b : Nat} {T : Tk} {s : St} {fs : List (Nat × Nat)} {cs : List Nat} {gn : Nat} (h : RelC V L b T s) (a : agr fs cs V W) (k : okA fs cs = true) (o : ∀ n : Nat, ¬ n = gn → W 43 n = V 43 n) (n1 : (W 43 gn).toInt = (V 43 gn).toInt) (e : M = L) : RelC W M b T s := by
  have e12 : W 12 = V 12 := funext fun q => ok_use a k (x := 12) rfl (Or.inl (by decide))
  have e13 : W 13 = V 13 := funext fun q => ok_use a k (x := 13) rfl (Or.inl (by decide))
  have e43 : W 43 = V 43 := funext fun q => by
    by_cases c : q = gn
    · rw [c]
      exact Int32.toInt_inj.mp n1
    · exact o q c
  have e7 : W 6 7 = V 6 7 := ok_use a k rfl (Or.inr rfl)
  have e2 : W 1 2 = V 1 2 := ok_use a k rfl (Or.inr rfl)
  subst e
  refine ⟨h.1.ag e7 (ok_use a k rfl (Or.inr rfl)) (ok_use a k rfl (Or.inr rfl)) (ok_use a k rfl (Or.inr rfl)) e12 e13 rfl rfl, h.2.1.ag e7 e12 e13 rfl (ok_use a k rfl (Or.inr rfl)), h.2.2.1.ag e43 rfl rfl, h.2.2.2.1.ag (funext fun q => ok_use a k (x := 41) rfl (Or.inl (by decide))) (funext fun q => ok_use a k (x := 63) rfl (Or.inl (by decide))) (funext fun q => ok_use a k (x := 65) rfl (Or.inl (by decide))) rfl, ?_⟩
  intro q
  rw [e2] at q ⊢
  exact (h.2.2.2.2 q).ag (funext fun q => ok_use a k (x := 49) rfl (Or.inl (by decide))) (funext fun q => ok_use a k (x := 56) rfl (Or.inl (by decide))) (funext fun q => ok_use a k (x := 57) rfl (Or.inl (by decide))) (funext fun q => ok_use a k (x := 61) rfl (Or.inl (by decide))) (fun _ _ => rfl) rfl
theorem RelC.addg {V W : Vf} {L M : Lf} {b : Nat} {T : Tk} {s : St} {fs : List (Nat × Nat)} {cs : List Nat} {j gn : Nat} {w : Int64} (h : RelC V L b T s) (hg : gn = 5 * b + j) (hj : j < 5) (a : agr fs cs V W) (k : okA fs cs = true) (o : ∀ n : Nat, ¬ n = gn → W 43 n = V 43 n) (n1 : (W 43 gn).toInt = (V 43 gn).toInt + 1) (e : M = upL L 44 (24 * gn + Int32.toNatClampNeg (V 43 gn)) w) (hc : ∀ n, 0 ≤ (V 43 n).toInt ∧ (V 43 n).toInt ≤ 24) (hl : (V 43 gn).toInt < 24) : RelC W M b T (sA s j w) := by
  subst hg
  exact h.add hj a k o n1 e hc hl
theorem sz24 {V : Vf} (h : rgd bX V) (n : Nat) : 0 ≤ (V 43 n).toInt ∧ (V 43 n).toInt ≤ 24 := by
  have a : 0 ≤ (V 43 n).toInt ∧ (V 43 n).toInt ≤ ((xcap n : Nat) : Int) := h 43 n
  have c := xcap_le n
  omega
theorem fnd_yg {V : Vf} {L : Lf} {b j gn : Nat} {s : St} {w : Int64} {r : Int} (hb : TBc V L b s) (hg : gn = 5 * b + j) (h : NF (fun i => L 44 (24 * gn + i)) (V 43 gn).toInt w r) (hj : j < 5) (q : 0 ≤ r) : fndI (s.2.1 j) w = some r.toNat := by
  subst hg
  exact h.yes (hb j hj) q
theorem fnd_ng {V : Vf} {L : Lf} {b j gn : Nat} {s : St} {w : Int64} {r : Int} (hb : TBc V L b s) (hg : gn = 5 * b + j) (h : NF (fun i => L 44 (24 * gn + i)) (V 43 gn).toInt w r) (hj : j < 5) (q : r = -1) : fndI (s.2.1 j) w = none := by
  subst hg
  exact h.no (hb j hj) q
theorem len_g {V : Vf} {L : Lf} {b j gn : Nat} {s : St} (hb : TBc V L b s) (hg : gn = 5 * b + j) (hj : j < 5) : ((s.2.1 j).length : Int) = (V 43 gn).toInt := by
  subst hg
  exact (hb j hj).1
theorem Kc_mth {T : Tk} {s : St} {j : Nat} {r F : Int} {P : Nat × St → Prop} (h3 : T.1 (s.1 0) = 3) (t : KcS (nbrW T s j) r F P) : KcS (mthW T s j) r F P :=
  t.elim (fun q => Or.inl ⟨q.1, q.2.elim (fun x h => ⟨x, fun kk => (mth_y h3 kk).trans (h.1 kk), h.2⟩)⟩) (fun q => Or.inr ⟨q.1, fun kk => (mth_y h3 kk).trans (q.2 kk)⟩)
theorem Kc_mthN {T : Tk} {s : St} {r F : Int} {P : Nat × St → Prop} (h3 : T.1 (s.1 0) = 3) (hn : mTold s (T.2.1 (s.1 0)) = false) (t : KcS (nbrW T s 3) r F P) : KcS (mthN T s) r F P :=
  have e : ∀ kk, mthN T s kk = nbrW T s 3 kk := fun kk => (mthN_y (fun q => by rw [hn] at q; exact absurd q.2 (by decide)) kk).trans (mth_y h3 kk)
  t.elim (fun q => Or.inl ⟨q.1, q.2.elim (fun x h => ⟨x, fun kk => (e kk).trans (h.1 kk), h.2⟩)⟩) (fun q => Or.inr ⟨q.1, fun kk => (e kk).trans (q.2 kk)⟩)
theorem Kc_im {F : (Nat × St → Cf) → Cf} {r f : Int} {P Q : Nat × St → Prop} (t : KcS F r f P) (h : ∀ x, P x → Q x) : KcS F r f Q :=
  t.elim (fun q => Or.inl ⟨q.1, q.2.elim (fun x k => ⟨x, k.1, h x k.2⟩)⟩) (fun q => Or.inr q)
/-! bits of a list of types -/
theorem b_one : ∀ i, i < 32 → i ≠ 0 → bt 1 i = false := by decide +kernel
theorem b_and1 (x : Int32) : (x &&& 1) = 0 ↔ bt x 0 = false := by
  constructor
  · intro h
    have z := b_and x 1 0
    rw [h, b_0, show bt 1 0 = true from by decide, Bool.and_true] at z
    exact z.symm
  · intro h
    refine b_ext (fun i hi => ?_)
    rw [b_and, b_0]
    by_cases c : i = 0
    · rw [c, h]
      rfl
    · rw [b_one i hi c, Bool.and_false]
theorem y_nI {y : Int32} {f : Nat} (hy : y.toInt = (f : Int)) (hf : f < 24) : y = nI f := Int32.toInt_inj.mp (by rw [nI_toInt (by omega)]; exact hy)
theorem lb_get {x y z1 z2 : Int32} {f : Nat} (e1 : z1 = x >>> (y &&& 31)) (e2 : z2 = z1 &&& 1) (hy : y.toInt = (f : Int)) (hf : f < 24) : z2.toInt = 0 ↔ bt x f = false := by
  have a : bt z1 0 = bt x f := by
    rw [e1, y_nI hy hf, b_sshr f (by omega) x (by decide), Nat.add_zero, if_pos (by omega)]
  have d := b_and1 z1
  rw [← e2, a] at d
  rw [← d]
  exact ⟨fun h => Int32.toInt_inj.mp h, fun h => by rw [h]; rfl⟩
theorem lb_set {x y z3 z4 : Int32} {f : Nat} (e3 : z3 = 1 <<< (y &&& 31)) (e4 : z4 = x ||| z3) (hy : y.toInt = (f : Int)) (hf : f < 24) {g : Nat} (hg : g < 24) : bt z4 g = true ↔ (g = f ∨ bt x g = true) := by
  rw [e4, b_or, e3, y_nI hy hf, b_shl f (by omega) 1 (by omega), Bool.or_eq_true, Bool.and_eq_true, decide_eq_true_iff]
  constructor
  · rintro (h | h)
    · exact Or.inr h
    · left
      rcases Nat.eq_zero_or_pos (g - f) with c | c
      · omega
      · have z := b_one (g - f) (by omega) (by omega)
        rw [z] at h
        exact absurd h.2 (by decide)
  · rintro (h | h)
    · right
      rw [h, Nat.sub_self]
      exact ⟨Nat.le_refl _, by decide⟩
    · exact Or.inl h
/-- what was listed is in the bits -/
def SEEN (x : Int32) (seen : List Nat) : Prop := ∀ g, g < 24 → (bt x g = true ↔ g ∈ seen)
theorem SEEN.z : SEEN 0 [] := fun g _ => ⟨fun h => by rw [b_0] at h; exact absurd h (by decide), fun h => absurd h List.not_mem_nil⟩
theorem SEEN.add {x y z3 z4 : Int32} {f : Nat} {l : List Nat} (h : SEEN x l) (e3 : z3 = 1 <<< (y &&& 31)) (e4 : z4 = x ||| z3) (hy : y.toInt = (f : Int)) (hf : f < 24) : SEEN z4 (f :: l) := fun g hg => by
  rw [lb_set e3 e4 hy hf hg, List.mem_cons, h g hg]
theorem SEEN.no {x y z1 z2 : Int32} {f : Nat} {l : List Nat} (h : SEEN x l) (e1 : z1 = x >>> (y &&& 31)) (e2 : z2 = z1 &&& 1) (hy : y.toInt = (f : Int)) (hf : f < 24) (q : z2.toInt = 0) : f ∉ l := fun m => by
  have a := (lb_get e1 e2 hy hf).mp q
  rw [(h f hf).mpr m] at a
  exact absurd a (by decide)
theorem SEEN.yes {x y z1 z2 : Int32} {f : Nat} {l : List Nat} (h : SEEN x l) (e1 : z1 = x >>> (y &&& 31)) (e2 : z2 = z1 &&& 1) (hy : y.toInt = (f : Int)) (hf : f < 24) (q : z2.toInt ≠ 0) : f ∈ l := by
  by_cases c : bt x f = true
  · exact (h f hf).mp c
  · exact absurd ((lb_get e1 e2 hy hf).mpr (by cases e : bt x f; rfl; exact absurd e c)) q
/-! the other BOOK's names stay -/
def ROWL (b : Nat) (L M : Lf) : Prop := ∀ k, ¬ (120 * b ≤ k ∧ k < 120 * b + 120) → M 44 k = L 44 k
theorem ROWL.ad {V : Vf} {L M : Lf} {b gn k : Nat} {p : Int64} {r : Int} {X : Prop} (h : (r = -1 ∧ M = L) ∨ (0 ≤ r ∧ M = upL L 44 (24 * gn + Int32.toNatClampNeg (V 43 gn)) p)) (i : Imp (((xcap gn : Nat) : Int) ≤ (V 43 gn).toInt) (r = -1 ∧ X)) (h0 : 0 ≤ (V 43 gn).toInt) (hg : 5 * b ≤ gn ∧ gn < 5 * b + 5) (hk : ¬ (120 * b ≤ k ∧ k < 120 * b + 120)) : M 44 k = L 44 k := by
  rcases h with ⟨_, e⟩ | ⟨q, e⟩
  · rw [e]
  · have c := (xcap_le gn).2
    have z : (V 43 gn).toInt < 24 := by
      by_cases d : ((xcap gn : Nat) : Int) ≤ (V 43 gn).toInt
      · have y := (Imp.go i d).1
        omega
      · omega
    have kc := i_clamp (x := V 43 gn) rfl h0
    rw [e]
    unfold upL vp_updL
    rw [if_pos rfl, if_neg (by omega)]


abbrev r_x_isTold3 : Room := { frames := 1, cells := 0, slots := 0, locals := 23 }
abbrev q_x_isTold3 (D : va_G) (ks : KS) (ad : Nat → Nat) (kk : Nat → ClassId) (V : Vf) (L : Lf) (Z : XZ) (p0 : Int64) (b : Nat) (gs : St) (A : Nat → Prop) : Array Value → State → Outcome → State → Prop := va_Qi (fun (r : Int32) (_ : Unit) => (0 ≤ r.toInt ∧ r.toInt ≤ 1) ∧ ((r.toInt = 1 ∧ isTold gs p0 = true) ∨ (r.toInt = 0 ∧ isTold gs p0 = false))) (fun _ t => gq D A (xw ad kk V L Z) (xty kk Z) t) A
set_option maxHeartbeats 4000000 in
set_option maxRecDepth 100000 in
theorem x_isTold3 (l : Launch) (D : va_G) (ks : KS) (sz : Nat) (ad : Nat → Nat) (kk : Nat → ClassId) (V : Vf) (L : Lf) (Z : XZ) (p0 : Int64) (b : Nat) (gs : St) (hMV : rgd bX V) (hb2 : b < 2) (tb : TBc V L b gs)  : Met l yX0_isTold (Cond.code yX0_isTold cX0_isTold 3 (some .boolean) :: GW) r_x_isTold3 (va_Pc [.ref (ad (38 + b)), .long p0] (gp D ks (xw ad kk V L Z) (xty kk Z) sz)) (q_x_isTold3 D ks ad kk V L Z p0 b gs (va_A (xw ad kk V L Z) sz)) 0 0 (va_A (xw ad kk V L Z) sz) := by
  refine g_met (q_x_isTold3 D ks ad kk V L Z p0 b gs) (by decide) (Nat.le_of_ble_eq_true rfl) ?_
  intro p e s m below meth c A ls H locs hx hb hr hml hown hg hlocks hin hnw hgk hP hK hD hS hA hl
  have hown : s.vm.findClass RX0 = some m.cls := hown
  have hl : lv_has ls 3 [(0, .ref (ad (38 + b))), (1, .long p0)] := hl
  have hP : va_P D vwCl (xw ad kk V L Z) H := hP
  have hD : va_D A (xw ad kk V L Z) := hD
  have hK : va_K D vwCl (xty kk Z) s := hK
  refine lv_aload_n hx hb dX0_isTold_0 rfl (lv_at hl 0 rfl) ?_
  refine va_get (D := D) (ci := 0) (v := .ref (ad (40 + (5 * b + 0)))) (fs := (xfBook ad V b)) (C := RX0) (T := TX0) (N := 13) hx hb hg inX0 hown hK hP (38 + b) (xgBook hb2) rfl 0 (by decide) (hg _ w593) (fun _ h9 => h9) rfl dX0_isTold_1 ?_
  refine lv_lload_n hx hb dX0_isTold_4 rfl (lv_at hl 1 rfl) ?_
  have il1 : (5 * b + 0) < 10 := by first | exact om_99c4753a5d76 hb2 | first | omega | ((try (have i_tb := Imp.go tb (by omega))); omega)
  refine gA_int (gA_runV (As := [.long p0]) (rest := []) (ci := 6) (q0 := (40 + (5 * b + 0))) hx hb hml hown hg hP hD hK hS hA hnw hgk (x_find2 l D ks H.size ad kk V L Z p0 ((5 * b + 0)) hMV (show (5 * b + 0) < 10 from by first | exact om_99c4753a5d76 hb2 | first | omega | ((try (have i_tb := Imp.go tb (by omega))); omega))) w880 w881 w882 w168 w883 rfl (xgNames il1) hdV_yX6_find ⟨Nat.le_of_ble_eq_true rfl, Nat.le_of_ble_eq_true rfl⟩ rfl hl.1 rfl (Nat.le_of_ble_eq_true rfl) dX0_isTold_5 ⟨Nat.le_of_ble_eq_true rfl, Nat.le_of_ble_eq_true rfl⟩) hP hD hK hS hA (fun z2 u3 H locs w4 hP hD hK hS => ?_)
  obtain ⟨rgz2, t5, t6⟩ := w4
  have rgz2 : (-1) ≤ z2.toInt ∧ z2.toInt ≤ 23 := rgz2
  have t5 : z2.toInt < (V 43 (5 * b + 0)).toInt := t5
  have t6 : NF (fun i => L 44 (24 * (5 * b + 0) + i)) (V 43 (5 * b + 0)).toInt p0 z2.toInt := t6
  refine lv_iconst (v := (-1)) hx hb dX0_isTold_8 (by decide) ?_
  refine lv_icmp_ne (tgt := 36) hx hb dX0_isTold_9 (by decide) (fun c7 => ?_) (fun c7 => ?_)
  · skip
    have f8 : z2.toInt ≠ (-1) := b_neq rfl (by decide) c7
    refine lv_iconst (v := 1) hx hb dX0_isTold_36 (by decide) ?_
    refine lv_goto (tgt := 41) hx hb dX0_isTold_37 (by decide) ?_
    exact W.zret (v := 1) hx hb hr rfl (fun t ht hW => ⟨⟨1, (), rfl, ⟨(by decide), (Or.inl ⟨rfl, told_1 (fnd_y tb t6 (by decide) (by (first | exact om_e3b1d6ac9ce8 rgz2.1 f8 | omega)))⟩)⟩, by rw [ht]; exact hP, va_K.moved hW.alike hK, hD⟩, hS.F ht⟩) hS.2.2 dX0_isTold_41
  · skip
    have f9 : z2.toInt = (-1) := b_eq rfl (by decide) c7
    refine lv_aload_n hx hb dX0_isTold_12 rfl (lv_at hl 0 rfl) ?_
    refine va_get (D := D) (ci := 0) (v := .ref (ad (40 + (5 * b + 1)))) (fs := (xfBook ad V b)) (C := RX0) (T := TX0) (N := 13) hx hb hg inX0 hown hK hP (38 + b) (xgBook hb2) rfl 1 (by decide) (hg _ w596) (fun _ h9 => h9) rfl dX0_isTold_13 ?_
    refine lv_lload_n hx hb dX0_isTold_16 rfl (lv_at hl 1 rfl) ?_
    have il10 : (5 * b + 1) < 10 := by first | exact om_3891d7acfde9 hb2 | first | omega | ((try (have i_tb := Imp.go tb (by omega))); omega)
    refine gA_int (gA_runV (As := [.long p0]) (rest := []) (ci := 6) (q0 := (40 + (5 * b + 1))) hx hb hml hown hg hP hD hK hS hA hnw hgk (x_find2 l D ks H.size ad kk V L Z p0 ((5 * b + 1)) hMV (show (5 * b + 1) < 10 from by first | exact om_3891d7acfde9 hb2 | first | omega | ((try (have i_tb := Imp.go tb (by omega))); omega))) w880 w881 w882 w168 w883 rfl (xgNames il10) hdV_yX6_find ⟨Nat.le_of_ble_eq_true rfl, Nat.le_of_ble_eq_true rfl⟩ rfl hl.1 rfl (Nat.le_of_ble_eq_true rfl) dX0_isTold_17 ⟨Nat.le_of_ble_eq_true rfl, Nat.le_of_ble_eq_true rfl⟩) hP hD hK hS hA (fun z11 u12 H locs w13 hP hD hK hS => ?_)
    obtain ⟨rgz11, t14, t15⟩ := w13
    have rgz11 : (-1) ≤ z11.toInt ∧ z11.toInt ≤ 23 := rgz11
    have t14 : z11.toInt < (V 43 (5 * b + 1)).toInt := t14
    have t15 : NF (fun i => L 44 (24 * (5 * b + 1) + i)) (V 43 (5 * b + 1)).toInt p0 z11.toInt := t15
    refine lv_iconst (v := (-1)) hx hb dX0_isTold_20 (by decide) ?_
    refine lv_icmp_ne (tgt := 36) hx hb dX0_isTold_21 (by decide) (fun c16 => ?_) (fun c16 => ?_)
    · skip
      have f17 : z11.toInt ≠ (-1) := b_neq rfl (by decide) c16
      refine lv_iconst (v := 1) hx hb dX0_isTold_36 (by decide) ?_
      refine lv_goto (tgt := 41) hx hb dX0_isTold_37 (by decide) ?_
      exact W.zret (v := 1) hx hb hr rfl (fun t ht hW => ⟨⟨1, (), rfl, ⟨(by decide), (Or.inl ⟨rfl, told_2 (fnd_n tb t6 (by decide) (by (first | exact om_8809abba85b8 rgz2.1 f9 | omega))) (fnd_y tb t15 (by decide) (by (first | exact om_e3b1d6ac9ce8 rgz11.1 f17 | omega)))⟩)⟩, by rw [ht]; exact hP, va_K.moved hW.alike hK, hD⟩, hS.F ht⟩) hS.2.2 dX0_isTold_41
    · skip
      have f18 : z11.toInt = (-1) := b_eq rfl (by decide) c16
      refine lv_aload_n hx hb dX0_isTold_24 rfl (lv_at hl 0 rfl) ?_
      refine va_get (D := D) (ci := 0) (v := .ref (ad (40 + (5 * b + 2)))) (fs := (xfBook ad V b)) (C := RX0) (T := TX0) (N := 13) hx hb hg inX0 hown hK hP (38 + b) (xgBook hb2) rfl 2 (by decide) (hg _ w599) (fun _ h9 => h9) rfl dX0_isTold_25 ?_
      refine lv_lload_n hx hb dX0_isTold_28 rfl (lv_at hl 1 rfl) ?_
      have il19 : (5 * b + 2) < 10 := by first | exact om_1478e52fbf50 hb2 | first | omega | ((try (have i_tb := Imp.go tb (by omega))); omega)
      refine gA_int (gA_runV (As := [.long p0]) (rest := []) (ci := 6) (q0 := (40 + (5 * b + 2))) hx hb hml hown hg hP hD hK hS hA hnw hgk (x_find2 l D ks H.size ad kk V L Z p0 ((5 * b + 2)) hMV (show (5 * b + 2) < 10 from by first | exact om_1478e52fbf50 hb2 | first | omega | ((try (have i_tb := Imp.go tb (by omega))); omega))) w880 w881 w882 w168 w883 rfl (xgNames il19) hdV_yX6_find ⟨Nat.le_of_ble_eq_true rfl, Nat.le_of_ble_eq_true rfl⟩ rfl hl.1 rfl (Nat.le_of_ble_eq_true rfl) dX0_isTold_29 ⟨Nat.le_of_ble_eq_true rfl, Nat.le_of_ble_eq_true rfl⟩) hP hD hK hS hA (fun z20 u21 H locs w22 hP hD hK hS => ?_)
      obtain ⟨rgz20, t23, t24⟩ := w22
      have rgz20 : (-1) ≤ z20.toInt ∧ z20.toInt ≤ 23 := rgz20
      have t23 : z20.toInt < (V 43 (5 * b + 2)).toInt := t23
      have t24 : NF (fun i => L 44 (24 * (5 * b + 2) + i)) (V 43 (5 * b + 2)).toInt p0 z20.toInt := t24
      refine lv_iconst (v := (-1)) hx hb dX0_isTold_32 (by decide) ?_
      refine lv_icmp_eq (tgt := 40) hx hb dX0_isTold_33 (by decide) (fun c25 => ?_) (fun c25 => ?_)
      · skip
        have f26 : z20.toInt = (-1) := b_eq rfl (by decide) c25
        refine lv_iconst (v := 0) hx hb dX0_isTold_40 (by decide) ?_
        exact W.zret (v := 0) hx hb hr rfl (fun t ht hW => ⟨⟨0, (), rfl, ⟨(by decide), (Or.inr ⟨rfl, told_0 (fnd_n tb t6 (by decide) (by (first | exact om_8809abba85b8 rgz2.1 f9 | omega))) (fnd_n tb t15 (by decide) (by (first | exact om_8809abba85b8 rgz11.1 f18 | omega))) (fnd_n tb t24 (by decide) (by (first | exact om_8809abba85b8 rgz20.1 f26 | omega)))⟩)⟩, by rw [ht]; exact hP, va_K.moved hW.alike hK, hD⟩, hS.F ht⟩) hS.2.2 dX0_isTold_41
      · skip
        have f27 : z20.toInt ≠ (-1) := b_neq rfl (by decide) c25
        refine lv_iconst (v := 1) hx hb dX0_isTold_36 (by decide) ?_
        refine lv_goto (tgt := 41) hx hb dX0_isTold_37 (by decide) ?_
        exact W.zret (v := 1) hx hb hr rfl (fun t ht hW => ⟨⟨1, (), rfl, ⟨(by decide), (Or.inl ⟨rfl, told_3 (fnd_n tb t6 (by decide) (by (first | exact om_8809abba85b8 rgz2.1 f9 | omega))) (fnd_n tb t15 (by decide) (by (first | exact om_8809abba85b8 rgz11.1 f18 | omega))) (fnd_y tb t24 (by decide) (by (first | exact om_e3b1d6ac9ce8 rgz20.1 f27 | omega)))⟩)⟩, by rw [ht]; exact hP, va_K.moved hW.alike hK, hD⟩, hS.F ht⟩) hS.2.2 dX0_isTold_41
abbrev r_x_takeNewName3 : Room := { frames := 2, cells := 0, slots := 0, locals := 45 }
abbrev q_x_takeNewName3 (D : va_G) (ks : KS) (ad : Nat → Nat) (kk : Nat → ClassId) (V : Vf) (L : Lf) (Z : XZ) (b : Nat) (gT : Tk) (gs : St) (A : Nat → Prop) : Array Value → State → Outcome → State → Prop := va_Qi (fun (r : Int32) (u : Vf × Lf) => rgd bX u.1 ∧ agr [(1, 3), (6, 8), (6, 9), (6, 10)] [] V u.1 ∧ agL [1, 6] L u.2 ∧ (0 ≤ r.toInt ∧ r.toInt ≤ 1) ∧ (KcW (newN gT gs) r.toInt (u.1 1 3).toInt (fun w9 => RelC u.1 u.2 b gT (nx gs 1) ∧ u.2 1 5 = w9))) (fun u t => gq D A (xw ad kk u.1 u.2 Z) (xty kk Z) t) A
set_option maxHeartbeats 4000000 in
set_option maxRecDepth 100000 in
theorem x_takeNewName3 (l : Launch) (D : va_G) (ks : KS) (sz : Nat) (ad : Nat → Nat) (kk : Nat → ClassId) (V : Vf) (L : Lf) (Z : XZ) (b : Nat) (gT : Tk) (gs : St) (hMV : rgd bX V) (hb2 : b < 2) (rbk : (V 1 1).toInt = (b : Int)) (rel : RelC V L b gT gs)  : Met l yX1_takeNewName (Cond.code yX1_takeNewName cX1_takeNewName 1 (some .boolean) :: GW) r_x_takeNewName3 (va_Pc [.ref (ad 1)] (gp D ks (xw ad kk V L Z) (xty kk Z) sz)) (q_x_takeNewName3 D ks ad kk V L Z  b gT gs (va_A (xw ad kk V L Z) sz)) 0 0 (va_A (xw ad kk V L Z) sz) := by
  refine g_met (q_x_takeNewName3 D ks ad kk V L Z  b gT gs) (by decide) (Nat.le_of_ble_eq_true rfl) ?_
  intro p e s m below meth c A ls H locs hx hb hr hml hown hg hlocks hin hnw hgk hP hK hD hS hA hl
  have hown : s.vm.findClass RX1 = some m.cls := hown
  have hl : lv_has ls 1 [(0, .ref (ad 1))] := hl
  have hP : va_P D vwCl (xw ad kk V L Z) H := hP
  have hD : va_D A (xw ad kk V L Z) := hD
  have hK : va_K D vwCl (xty kk Z) s := hK
  have agV : agr [(1, 3), (6, 8), (6, 9), (6, 10)] [] V V := agr.rf
  have alL : agL [1, 6] L L := agL.rf
  have r1 : (-1) ≤ ((V 1 1)).toInt ∧ ((V 1 1)).toInt ≤ 1 := hMV 1 1
  refine lv_aload_n hx hb dX1_takeNewName_0 rfl (lv_at hl 0 rfl) ?_
  refine va_get (D := D) (ci := 1) (v := .ref (ad 6)) (fs := (xfReader ad V L Z)) (C := RX1) (T := TX1) (N := 9) hx hb hg inX1 hown hK hP 1 xgReader rfl 0 (by decide) (hg _ w304) (fun _ h9 => h9) rfl dX1_takeNewName_1 ?_
  refine va_getN (D := D) (ci := 9) (v := .int (V 6 9)) (fs := (xfTape ad V L Z)) (C := RX9) (T := TX9) (N := 12) hx hb hg inX9 hown hK hP 6 xgTape rfl 9 (by decide) (hnw.use 262 n262 rfl) (fun _ h9 => h9) rfl dX1_takeNewName_4 ?_
  refine lv_iconst (v := 3) hx hb dX1_takeNewName_7 (by decide) ?_
  refine lv_icmp_eq (tgt := 17) hx hb dX1_takeNewName_8 (by decide) (fun c2 => ?_) (fun c2 => ?_)
  · skip
    have f3 : ((V 6 9)).toInt = 3 := b_eq rfl (by decide) c2
    have kd4 : gT.1 (gs.1 0) = ((V 6 9)).toInt := RelC.kd rel
    refine lv_aload_n hx hb dX1_takeNewName_17 rfl (lv_at hl 0 rfl) ?_
    refine va_get (D := D) (ci := 1) (v := rfN ad 38 (V 1 1)) (fs := (xfReader ad V L Z)) (C := RX1) (T := TX1) (N := 9) hx hb hg inX1 hown hK hP 1 xgReader rfl 1 (by decide) (hg _ w305) (fun _ h9 => h9) rfl dX1_takeNewName_18 ?_
    refine g_topv (v := .ref (ad (38 + b))) (rfN_r (by omega)) ?_
    refine lv_aload_n hx hb dX1_takeNewName_21 rfl (lv_at hl 0 rfl) ?_
    refine va_get (D := D) (ci := 1) (v := .ref (ad 6)) (fs := (xfReader ad V L Z)) (C := RX1) (T := TX1) (N := 9) hx hb hg inX1 hown hK hP 1 xgReader rfl 0 (by decide) (hg _ w304) (fun _ h9 => h9) rfl dX1_takeNewName_22 ?_
    refine va_getN (D := D) (ci := 9) (v := .long (L 6 11)) (fs := (xfTape ad V L Z)) (C := RX9) (T := TX9) (N := 12) hx hb hg inX9 hown hK hP 6 xgTape rfl 11 (by decide) (hnw.use 269 n269 rfl) (fun _ h9 => h9) rfl dX1_takeNewName_25 ?_
    refine gA_int (gA_runV (As := [.long (L 6 11)]) (rest := []) (ci := 0) (q0 := (38 + b)) hx hb hml hown hg hP hD hK hS hA hnw hgk (x_isTold3 l D ks H.size ad kk V L Z (L 6 11) (b) (gs) hMV (show b < 2 from by (first | exact om_f940a4667dd6 hb2 | omega)) (rel).2.2.1) w876 w877 w878 w167 w879 rfl (xgBook hb2) hdV_yX0_isTold ⟨Nat.le_of_ble_eq_true rfl, Nat.le_of_ble_eq_true rfl⟩ rfl hl.1 rfl (Nat.le_of_ble_eq_true rfl) dX1_takeNewName_28 ⟨Nat.le_of_ble_eq_true rfl, Nat.le_of_ble_eq_true rfl⟩) hP hD hK hS hA (fun z5 u6 H locs w7 hP hD hK hS => ?_)
    obtain ⟨rgz5, t8⟩ := w7
    have rgz5 : 0 ≤ z5.toInt ∧ z5.toInt ≤ 1 := rgz5
    have t8 : (z5.toInt = 1 ∧ isTold gs (L 6 11) = true) ∨ (z5.toInt = 0 ∧ isTold gs (L 6 11) = false) := t8
    rcases t8 with ⟨q9, h10⟩ | ⟨q9, h10⟩
    · skip
      refine lv_if_eq (tgt := 40) hx hb dX1_takeNewName_31 (by decide) (fun c11 => ?_) (fun c11 => ?_)
      · skip
        have f12 : z5.toInt = 0 := b_eq rfl (by decide) c11
        exfalso; (first | exact om_495ee03a60ae q9 f12 | omega)
      · skip
        have f13 : z5.toInt ≠ 0 := b_neq rfl (by decide) c11
        refine lv_aload_n hx hb dX1_takeNewName_34 rfl (lv_at hl 0 rfl) ?_
        refine lv_iconst (v := 3) hx hb dX1_takeNewName_35 (by decide) ?_
        have r14 : Int32.toInt 3 = 3 := by decide
        refine gA_int (gA_runV (As := [.int 3]) (rest := []) (ci := 1) (q0 := 1) hx hb hml hown hg hP hD hK hS hA hnw hgk (x_wrong2 l D ks H.size ad kk V L Z 3 hMV (by decide)) w867 w869 w6 w162 w870 rfl xgReader hdV_yX1_wrong ⟨Nat.le_of_ble_eq_true rfl, Nat.le_of_ble_eq_true rfl⟩ rfl hl.1 rfl (Nat.le_of_ble_eq_true rfl) dX1_takeNewName_36 ⟨Nat.le_of_ble_eq_true rfl, Nat.le_of_ble_eq_true rfl⟩) hP hD hK hS hA (fun z15 u16 H locs w17 hP hD hK hS => ?_)
        obtain ⟨V20, L21⟩ := u16
        obtain ⟨hMV20, ajV20, axL21, rgz15, t18, t19⟩ := w17
        have axL21 : L = L21 := Eq.symm axL21
        subst axL21
        have hP : va_P D vwCl (xw ad kk V20 L Z) H := hP
        have hD : va_D A (xw ad kk V20 L Z) := hD
        have hMV20 : rgd bX V20 := hMV20
        have ajV20 : agr [(1, 3)] [] V V20 := ajV20
        have agV20 : agr [(1, 3), (6, 8), (6, 9), (6, 10)] [] V V20 := agV.tr ajV20 (by decide) (by decide)
        have rgz15 : 0 ≤ z15.toInt ∧ z15.toInt ≤ 0 := rgz15
        have t18 : 1 ≤ (V20 1 3).toInt := t18
        have t19 : (V20 1 3).toInt = (Int32.toInt 3) + 16 * (V 6 10).toInt := t19
        have r22 : 0 ≤ ((V 6 10)).toInt ∧ ((V 6 10)).toInt ≤ 4000 := hMV 6 10
        exact W.zret (v := z15) hx hb hr (nb_ok (by omega)) (fun t ht hW => ⟨⟨z15, (V20, L), rfl, ⟨hMV20, agV20, alL, (show 0 ≤ z15.toInt ∧ z15.toInt ≤ 1 from by (first | exact om_641b3f05f166 rgz15.1 rgz15.2 | omega)), (Or.inr ⟨(by omega), fun kk => (newN_3 (kd4.trans f3) (by rw [(RelC.vl rel)]; exact h10) kk).trans (fl_eq (RelC.st rel) (show (V20 1 3).toInt = 3 + 16 * (V 6 10).toInt from by (first | exact om_b430a26e4567 r14 t19 | omega)))⟩)⟩, by rw [ht]; exact hP, va_K.moved hW.alike hK, hD⟩, hS.F ht⟩) hS.2.2 dX1_takeNewName_39
    · skip
      refine lv_if_eq (tgt := 40) hx hb dX1_takeNewName_31 (by decide) (fun c23 => ?_) (fun c23 => ?_)
      · skip
        have f24 : z5.toInt = 0 := b_eq rfl (by decide) c23
        refine lv_aload_n hx hb dX1_takeNewName_40 rfl (lv_at hl 0 rfl) ?_
        refine lv_aload_n hx hb dX1_takeNewName_41 rfl (lv_at hl 0 rfl) ?_
        refine va_get (D := D) (ci := 1) (v := .ref (ad 6)) (fs := (xfReader ad V L Z)) (C := RX1) (T := TX1) (N := 9) hx hb hg inX1 hown hK hP 1 xgReader rfl 0 (by decide) (hg _ w304) (fun _ h9 => h9) rfl dX1_takeNewName_42 ?_
        refine va_getN (D := D) (ci := 9) (v := .long (L 6 11)) (fs := (xfTape ad V L Z)) (C := RX9) (T := TX9) (N := 12) hx hb hg inX9 hown hK hP 6 xgTape rfl 11 (by decide) (hnw.use 269 n269 rfl) (fun _ h9 => h9) rfl dX1_takeNewName_45 ?_
        refine va_put (D := D) (ci := 1) (v := .long (L 6 11)) (ty := tyX1 5) (fs := (xfReader ad V L Z)) (C := RX1) (T := TX1) (N := 9) hx hb hg inX1 tyX1 tyX1_ok nmX1 hown hK hP hD hS 1 xgReader rfl 5 (by decide) (hg _ w309) (fun _ h9 => h9) rfl (tyX1_ok 5 (by decide)) rfl rfl (Nat.le_of_ble_eq_true rfl) dX1_takeNewName_48 (fun H locs hP hD hS => ?_)
        obtain ⟨L25, hL25⟩ : ∃ z, z = upL L 1 5 (L 6 11) := ⟨_, rfl⟩
        have ew26 : (xw ad kk V L Z).set 1 ((ad 1), .inr (1, (xfReader ad V L Z).set 5 (.long (L 6 11)))) = xw ad kk V L25 Z := by rw [hL25]; exact xw_ss (by decide) rfl (fun j => xe_L (fun a => absurd a.1 (by decide)))
        have hP : va_P D vwCl (xw ad kk V L25 Z) H := by rw [← ew26]; exact hP
        have hD : va_D A (xw ad kk V L25 Z) := by rw [← ew26]; exact hD
        have alL25 : agL [1, 6] L L25 := agL.up alL hL25 rfl
        refine lv_aload_n hx hb dX1_takeNewName_51 rfl (lv_at hl 0 rfl) ?_
        refine va_get (D := D) (ci := 1) (v := .ref (ad 6)) (fs := (xfReader ad V L25 Z)) (C := RX1) (T := TX1) (N := 9) hx hb hg inX1 hown hK hP 1 xgReader rfl 0 (by decide) (hg _ w304) (fun _ h9 => h9) rfl dX1_takeNewName_52 ?_
        have rl27 : RelC V L25 b gT gs := RelC.ag rel (show agr [] [] V V from agr.rf) (by decide) (show agL [1] L L25 from (agL.up agL.rf hL25 rfl)) (by decide)
        have l828 := RelC.l8 rl27
        have r29 : 0 ≤ ((V 6 8)).toInt ∧ ((V 6 8)).toInt ≤ 4000 := hMV 6 8
        have r30 : 0 ≤ ((V 6 7)).toInt ∧ ((V 6 7)).toInt ≤ 4000 := hMV 6 7
        have lk31 := RelC.lk rl27 (show (V 6 9).toInt ≠ 0 from by (first | exact om_19a2929b0700 f3 | omega))
        refine gA_void (gA_runV (As := []) (rest := []) (ci := 9) (q0 := 6) hx hb hml hown hg hP hD hK hS hA hnw hgk (x_next2 l D ks H.size ad kk V L25 Z  hMV (show (V 6 8).toInt ≤ (V 6 7).toInt from by (first | exact om_f4906d00fa52 l828 | omega))) w871 w852 w853 w157 w854 rfl xgTape hdV_yX9_next ⟨Nat.le_of_ble_eq_true rfl, Nat.le_of_ble_eq_true rfl⟩ rfl hl.1 rfl (Nat.le_of_ble_eq_true rfl) dX1_takeNewName_55 ⟨Nat.le_of_ble_eq_true rfl, Nat.le_of_ble_eq_true rfl⟩) hP hD hK hS hA (fun u33 H locs w34 hP hD hK hS => ?_)
        obtain ⟨V37, L38⟩ := u33
        obtain ⟨hMV37, ajV37, axL38, t35, t36⟩ := w34
        have alL38 : agL [1, 6] L L38 := agL.tr alL25 axL38 (by decide)
        have hP : va_P D vwCl (xw ad kk V37 L38 Z) H := hP
        have hD : va_D A (xw ad kk V37 L38 Z) := hD
        have hMV37 : rgd bX V37 := hMV37
        have ajV37 : agr [(6, 8), (6, 9), (6, 10)] [] V V37 := ajV37
        have agV37 : agr [(1, 3), (6, 8), (6, 9), (6, 10)] [] V V37 := agV.tr ajV37 (by decide) (by decide)
        have t35 : (V37 6 8).toInt ≤ (V37 6 7).toInt := t35
        have t36 : CUR V37 L38 (Int32.toNatClampNeg (V 6 8)) := t36
        have r39 : 0 ≤ ((V37 6 8)).toInt ∧ ((V37 6 8)).toInt ≤ 4000 := hMV37 6 8
        have pq40 : (V37 6 7).toInt = ((V 6 7)).toInt := congrArg Int32.toInt (ajV37 6 7 rfl)
        have rl41 : RelC V37 L38 b gT (nx gs 1) := RelC.nx1 rl27 ajV37 (by decide) axL38 (by decide) (by rw [← lk31]; exact t36) (ajV37 1 3 rfl)
        refine lv_iconst (v := 1) hx hb dX1_takeNewName_58 (by decide) ?_
        exact W.zret (v := 1) hx hb hr rfl (fun t ht hW => ⟨⟨1, (V37, L38), rfl, ⟨hMV37, agV37, alL38, (by decide), (Or.inl ⟨rfl, gT.2.1 (gs.1 0), fun kk => newN_y (kd4.trans f3) (by rw [(RelC.vl rel), h10]; decide) kk, rl41, ((axL38 1 5 rfl).trans (upL_s hL25)).trans (RelC.vl rel).symm⟩)⟩, by rw [ht]; exact hP, va_K.moved hW.alike hK, hD⟩, hS.F ht⟩) hS.2.2 dX1_takeNewName_59
      · skip
        have f42 : z5.toInt ≠ 0 := b_neq rfl (by decide) c23
        exfalso; (first | exact om_fb320d7600b7 rgz5.1 q9 f42 | omega)
  · skip
    have f43 : ((V 6 9)).toInt ≠ 3 := b_neq rfl (by decide) c2
    refine lv_aload_n hx hb dX1_takeNewName_11 rfl (lv_at hl 0 rfl) ?_
    refine lv_iconst (v := 1) hx hb dX1_takeNewName_12 (by decide) ?_
    have kd44 : gT.1 (gs.1 0) = ((V 6 9)).toInt := RelC.kd rel
    have r45 : Int32.toInt 1 = 1 := by decide
    refine gA_int (gA_runV (As := [.int 1]) (rest := []) (ci := 1) (q0 := 1) hx hb hml hown hg hP hD hK hS hA hnw hgk (x_wrong2 l D ks H.size ad kk V L Z 1 hMV (by decide)) w867 w869 w6 w162 w870 rfl xgReader hdV_yX1_wrong ⟨Nat.le_of_ble_eq_true rfl, Nat.le_of_ble_eq_true rfl⟩ rfl hl.1 rfl (Nat.le_of_ble_eq_true rfl) dX1_takeNewName_13 ⟨Nat.le_of_ble_eq_true rfl, Nat.le_of_ble_eq_true rfl⟩) hP hD hK hS hA (fun z46 u47 H locs w48 hP hD hK hS => ?_)
    obtain ⟨V51, L52⟩ := u47
    obtain ⟨hMV51, ajV51, axL52, rgz46, t49, t50⟩ := w48
    have axL52 : L = L52 := Eq.symm axL52
    subst axL52
    have hP : va_P D vwCl (xw ad kk V51 L Z) H := hP
    have hD : va_D A (xw ad kk V51 L Z) := hD
    have hMV51 : rgd bX V51 := hMV51
    have ajV51 : agr [(1, 3)] [] V V51 := ajV51
    have agV51 : agr [(1, 3), (6, 8), (6, 9), (6, 10)] [] V V51 := agV.tr ajV51 (by decide) (by decide)
    have rgz46 : 0 ≤ z46.toInt ∧ z46.toInt ≤ 0 := rgz46
    have t49 : 1 ≤ (V51 1 3).toInt := t49
    have t50 : (V51 1 3).toInt = (Int32.toInt 1) + 16 * (V 6 10).toInt := t50
    have r53 : 0 ≤ ((V 6 10)).toInt ∧ ((V 6 10)).toInt ≤ 4000 := hMV 6 10
    exact W.zret (v := z46) hx hb hr (nb_ok (by omega)) (fun t ht hW => ⟨⟨z46, (V51, L), rfl, ⟨hMV51, agV51, alL, (show 0 ≤ z46.toInt ∧ z46.toInt ≤ 1 from by (first | exact om_641b3f05f166 rgz46.1 rgz46.2 | omega)), (Or.inr ⟨(by omega), fun kk => (newN_1 (fun h9 => f43 (kd44.symm.trans h9)) kk).trans (fl_eq (RelC.st rel) (show (V51 1 3).toInt = 1 + 16 * (V 6 10).toInt from by (first | exact om_f884d2586d25 r45 t50 | omega)))⟩)⟩, by rw [ht]; exact hP, va_K.moved hW.alike hK, hD⟩, hS.F ht⟩) hS.2.2 dX1_takeNewName_16
abbrev r_x_isToldType3 : Room := { frames := 1, cells := 0, slots := 0, locals := 23 }
abbrev q_x_isToldType3 (D : va_G) (ks : KS) (ad : Nat → Nat) (kk : Nat → ClassId) (V : Vf) (L : Lf) (Z : XZ) (b : Nat) (gT : Tk) (gs : St) (A : Nat → Prop) : Array Value → State → Outcome → State → Prop := va_Qi (fun (r : Int32) (u : Vf × Lf) => rgd bX u.1 ∧ agr [(1, 3), (1, 6)] [] V u.1 ∧ u.2 = L ∧ (0 ≤ r.toInt ∧ r.toInt ≤ 1) ∧ (KcN (look gT gs (gs.2.1 0)) r.toInt (u.1 1 3).toInt (fun f9 => RelC u.1 u.2 b gT gs ∧ (u.1 1 6).toInt = ((f9 : Nat) : Int) ∧ f9 < 24))) (fun u t => gq D A (xw ad kk u.1 u.2 Z) (xty kk Z) t) A
set_option maxHeartbeats 4000000 in
set_option maxRecDepth 100000 in
theorem x_isToldType3 (l : Launch) (D : va_G) (ks : KS) (sz : Nat) (ad : Nat → Nat) (kk : Nat → ClassId) (V : Vf) (L : Lf) (Z : XZ) (b : Nat) (gT : Tk) (gs : St) (hMV : rgd bX V) (hb2 : b < 2) (rbk : (V 1 1).toInt = (b : Int)) (rel : RelC V L b gT gs)  : Met l yX1_isToldType (Cond.code yX1_isToldType cX1_isToldType 1 (some .boolean) :: GW) r_x_isToldType3 (va_Pc [.ref (ad 1)] (gp D ks (xw ad kk V L Z) (xty kk Z) sz)) (q_x_isToldType3 D ks ad kk V L Z  b gT gs (va_A (xw ad kk V L Z) sz)) 0 0 (va_A (xw ad kk V L Z) sz) := by
  refine g_met (q_x_isToldType3 D ks ad kk V L Z  b gT gs) (by decide) (Nat.le_of_ble_eq_true rfl) ?_
  intro p e s m below meth c A ls H locs hx hb hr hml hown hg hlocks hin hnw hgk hP hK hD hS hA hl
  have hown : s.vm.findClass RX1 = some m.cls := hown
  have hl : lv_has ls 1 [(0, .ref (ad 1))] := hl
  have hP : va_P D vwCl (xw ad kk V L Z) H := hP
  have hD : va_D A (xw ad kk V L Z) := hD
  have hK : va_K D vwCl (xty kk Z) s := hK
  have agV : agr [(1, 3), (1, 6)] [] V V := agr.rf
  have r1 : (-1) ≤ ((V 1 1)).toInt ∧ ((V 1 1)).toInt ≤ 1 := hMV 1 1
  refine lv_aload_n hx hb dX1_isToldType_0 rfl (lv_at hl 0 rfl) ?_
  refine va_get (D := D) (ci := 1) (v := .ref (ad 6)) (fs := (xfReader ad V L Z)) (C := RX1) (T := TX1) (N := 9) hx hb hg inX1 hown hK hP 1 xgReader rfl 0 (by decide) (hg _ w304) (fun _ h9 => h9) rfl dX1_isToldType_1 ?_
  refine va_getN (D := D) (ci := 9) (v := .int (V 6 9)) (fs := (xfTape ad V L Z)) (C := RX9) (T := TX9) (N := 12) hx hb hg inX9 hown hK hP 6 xgTape rfl 9 (by decide) (hnw.use 262 n262 rfl) (fun _ h9 => h9) rfl dX1_isToldType_4 ?_
  refine lv_iconst (v := 3) hx hb dX1_isToldType_7 (by decide) ?_
  refine lv_icmp_eq (tgt := 17) hx hb dX1_isToldType_8 (by decide) (fun c2 => ?_) (fun c2 => ?_)
  · skip
    have f3 : ((V 6 9)).toInt = 3 := b_eq rfl (by decide) c2
    have kd4 : gT.1 (gs.1 0) = ((V 6 9)).toInt := RelC.kd rel
    refine lv_aload_n hx hb dX1_isToldType_17 rfl (lv_at hl 0 rfl) ?_
    refine lv_aload_n hx hb dX1_isToldType_18 rfl (lv_at hl 0 rfl) ?_
    refine va_get (D := D) (ci := 1) (v := rfN ad 38 (V 1 1)) (fs := (xfReader ad V L Z)) (C := RX1) (T := TX1) (N := 9) hx hb hg inX1 hown hK hP 1 xgReader rfl 1 (by decide) (hg _ w305) (fun _ h9 => h9) rfl dX1_isToldType_19 ?_
    refine g_topv (v := .ref (ad (38 + b))) (rfN_r (by omega)) ?_
    refine va_getN (D := D) (ci := 0) (v := .ref (ad (40 + (5 * b + 0)))) (fs := (xfBook ad V b)) (C := RX0) (T := TX0) (N := 13) hx hb hg inX0 hown hK hP (38 + b) (xgBook hb2) rfl 0 (by decide) (hnw.use 594 n594 rfl) (fun _ h9 => h9) rfl dX1_isToldType_22 ?_
    refine lv_aload_n hx hb dX1_isToldType_25 rfl (lv_at hl 0 rfl) ?_
    refine va_get (D := D) (ci := 1) (v := .ref (ad 6)) (fs := (xfReader ad V L Z)) (C := RX1) (T := TX1) (N := 9) hx hb hg inX1 hown hK hP 1 xgReader rfl 0 (by decide) (hg _ w304) (fun _ h9 => h9) rfl dX1_isToldType_26 ?_
    refine va_getN (D := D) (ci := 9) (v := .long (L 6 11)) (fs := (xfTape ad V L Z)) (C := RX9) (T := TX9) (N := 12) hx hb hg inX9 hown hK hP 6 xgTape rfl 11 (by decide) (hnw.use 269 n269 rfl) (fun _ h9 => h9) rfl dX1_isToldType_29 ?_
    have il5 : (5 * b + 0) < 10 := by (first | exact om_99c4753a5d76 hb2 | omega)
    refine gA_int (gA_runV (As := [.long (L 6 11)]) (rest := [.ref (ad 1)]) (ci := 6) (q0 := (40 + (5 * b + 0))) hx hb hml hown hg hP hD hK hS hA hnw hgk (x_find2 l D ks H.size ad kk V L Z (L 6 11) ((5 * b + 0)) hMV (show (5 * b + 0) < 10 from by (first | exact om_99c4753a5d76 hb2 | omega))) w892 w881 w882 w168 w883 rfl (xgNames il5) hdV_yX6_find ⟨Nat.le_of_ble_eq_true rfl, Nat.le_of_ble_eq_true rfl⟩ rfl hl.1 rfl (Nat.le_of_ble_eq_true rfl) dX1_isToldType_32 ⟨Nat.le_of_ble_eq_true rfl, Nat.le_of_ble_eq_true rfl⟩) hP hD hK hS hA (fun z6 u7 H locs w8 hP hD hK hS => ?_)
    obtain ⟨rgz6, t9, t10⟩ := w8
    have rgz6 : (-1) ≤ z6.toInt ∧ z6.toInt ≤ 23 := rgz6
    have t9 : z6.toInt < (V 43 (5 * b + 0)).toInt := t9
    have t10 : NF (fun i => L 44 (24 * (5 * b + 0) + i)) (V 43 (5 * b + 0)).toInt (L 6 11) z6.toInt := t10
    refine va_put (D := D) (ci := 1) (v := .int z6) (ty := tyX1 6) (fs := (xfReader ad V L Z)) (C := RX1) (T := TX1) (N := 9) hx hb hg inX1 tyX1 tyX1_ok nmX1 hown hK hP hD hS 1 xgReader rfl 6 (by decide) (hg _ w310) (fun _ h9 => h9) rfl (tyX1_ok 6 (by decide)) rfl rfl (Nat.le_of_ble_eq_true rfl) dX1_isToldType_35 (fun H locs hP hD hS => ?_)
    obtain ⟨V11, hV11⟩ : ∃ z, z = up2 V 1 6 z6 := ⟨_, rfl⟩
    have ew12 : (xw ad kk V L Z).set 1 ((ad 1), .inr (1, (xfReader ad V L Z).set 6 (.int z6))) = xw ad kk V11 L Z := by rw [hV11]; exact xw_ss (by decide) rfl (xb_si (by decide))
    have hP : va_P D vwCl (xw ad kk V11 L Z) H := by rw [← ew12]; exact hP
    have hD : va_D A (xw ad kk V11 L Z) := by rw [← ew12]; exact hD
    have hMV11 : rgd bX V11 := hMV.put hV11 (show (-1) ≤ z6.toInt ∧ z6.toInt ≤ 23 from by (first | exact om_b5ea211f5a81 rgz6.1 rgz6.2 | omega))
    have agV11 : agr [(1, 3), (1, 6)] [] V V11 := agV.up hV11 rfl
    refine lv_aload_n hx hb dX1_isToldType_38 rfl (lv_at hl 0 rfl) ?_
    refine va_get (D := D) (ci := 1) (v := .int (V11 1 6)) (fs := (xfReader ad V11 L Z)) (C := RX1) (T := TX1) (N := 9) hx hb hg inX1 hown hK hP 1 xgReader rfl 6 (by decide) (hg _ w310) (fun _ h9 => h9) rfl dX1_isToldType_39 ?_
    refine g_top (v := z6) (up2_s hV11) ?_
    refine lv_iconst (v := (-1)) hx hb dX1_isToldType_42 (by decide) ?_
    refine lv_icmp_ne (tgt := 54) hx hb dX1_isToldType_43 (by decide) (fun c13 => ?_) (fun c13 => ?_)
    · skip
      have f14 : z6.toInt ≠ (-1) := b_neq rfl (by decide) c13
      refine lv_iconst (v := 1) hx hb dX1_isToldType_54 (by decide) ?_
      refine lv_goto (tgt := 59) hx hb dX1_isToldType_55 (by decide) ?_
      have pq15 : (V11 1 6).toInt = z6.toInt := congrArg Int32.toInt (up2_s hV11)
      have rl16 : RelC V11 L b gT gs := RelC.ag rel (show agr [(1, 6)] [] V V11 from (agr.up agr.rf hV11 rfl)) (by decide) (show agL [] L L from agL.rf) (by decide)
      exact W.zret (v := 1) hx hb hr rfl (fun t ht hW => ⟨⟨1, (V11, L), rfl, ⟨hMV11, agV11, rfl, (by decide), (Or.inl ⟨rfl, z6.toInt.toNat, fun kk => look_y (kd4.trans f3) (by rw [(RelC.vl rel)]; exact fnd_y rel.2.2.1 t10 (by decide) (by omega)) kk, rl16, (show (V11 1 6).toInt = ((z6.toInt.toNat : Nat) : Int) from by (first | exact om_9c959d5ccbf0 rgz6.1 f14 pq15 | omega)), (by omega)⟩)⟩, by rw [ht]; exact hP, va_K.moved hW.alike hK, hD⟩, hS.F ht⟩) hS.2.2 dX1_isToldType_59
    · skip
      have f17 : z6.toInt = (-1) := b_eq rfl (by decide) c13
      refine lv_aload_n hx hb dX1_isToldType_46 rfl (lv_at hl 0 rfl) ?_
      refine lv_iconst (v := 2) hx hb dX1_isToldType_47 (by decide) ?_
      have rl18 : RelC V11 L b gT gs := RelC.ag rel (show agr [(1, 6)] [] V V11 from (agr.up agr.rf hV11 rfl)) (by decide) (show agL [] L L from agL.rf) (by decide)
      have r19 : Int32.toInt 2 = 2 := by decide
      refine gA_int (gA_runV (As := [.int 2]) (rest := []) (ci := 1) (q0 := 1) hx hb hml hown hg hP hD hK hS hA hnw hgk (x_wrong2 l D ks H.size ad kk V11 L Z 2 hMV11 (by decide)) w867 w869 w6 w162 w870 rfl xgReader hdV_yX1_wrong ⟨Nat.le_of_ble_eq_true rfl, Nat.le_of_ble_eq_true rfl⟩ rfl hl.1 rfl (Nat.le_of_ble_eq_true rfl) dX1_isToldType_48 ⟨Nat.le_of_ble_eq_true rfl, Nat.le_of_ble_eq_true rfl⟩) hP hD hK hS hA (fun z20 u21 H locs w22 hP hD hK hS => ?_)
      obtain ⟨V25, L26⟩ := u21
      obtain ⟨hMV25, ajV25, axL26, rgz20, t23, t24⟩ := w22
      have axL26 : L = L26 := Eq.symm axL26
      subst axL26
      have hP : va_P D vwCl (xw ad kk V25 L Z) H := hP
      have hD : va_D A (xw ad kk V25 L Z) := hD
      have hMV25 : rgd bX V25 := hMV25
      have ajV25 : agr [(1, 3)] [] V11 V25 := ajV25
      have agV25 : agr [(1, 3), (1, 6)] [] V V25 := agV11.tr ajV25 (by decide) (by decide)
      have rgz20 : 0 ≤ z20.toInt ∧ z20.toInt ≤ 0 := rgz20
      have t23 : 1 ≤ (V25 1 3).toInt := t23
      have t24 : (V25 1 3).toInt = (Int32.toInt 2) + 16 * (V11 6 10).toInt := t24
      have pq27 : (V11 6 10).toInt = ((V 6 10)).toInt := congrArg Int32.toInt (up2_o hV11 (by decide))
      have r28 : 0 ≤ ((V 6 10)).toInt ∧ ((V 6 10)).toInt ≤ 4000 := hMV 6 10
      refine lv_if_eq (tgt := 58) hx hb dX1_isToldType_51 (by decide) (fun c29 => ?_) (fun c29 => ?_)
      · skip
        have f30 : z20.toInt = 0 := b_eq rfl (by decide) c29
        refine lv_iconst (v := 0) hx hb dX1_isToldType_58 (by decide) ?_
        exact W.zret (v := 0) hx hb hr rfl (fun t ht hW => ⟨⟨0, (V25, L), rfl, ⟨hMV25, agV25, rfl, (by decide), (Or.inr ⟨rfl, fun kk => (look_2 (kd4.trans f3) (by rw [(RelC.vl rel)]; exact fnd_n rel.2.2.1 t10 (by decide) (by omega)) kk).trans (fl_eq (RelC.st rl18) (show (V25 1 3).toInt = 2 + 16 * (V11 6 10).toInt from by (first | exact om_b40e2b615867 r19 t24 | omega)))⟩)⟩, by rw [ht]; exact hP, va_K.moved hW.alike hK, hD⟩, hS.F ht⟩) hS.2.2 dX1_isToldType_59
      · skip
        have f31 : z20.toInt ≠ 0 := b_neq rfl (by decide) c29
        exfalso; (first | exact om_0e608cc4b4f6 rgz20.1 rgz20.2 f31 | omega)
  · skip
    have f32 : ((V 6 9)).toInt ≠ 3 := b_neq rfl (by decide) c2
    refine lv_aload_n hx hb dX1_isToldType_11 rfl (lv_at hl 0 rfl) ?_
    refine lv_iconst (v := 1) hx hb dX1_isToldType_12 (by decide) ?_
    have kd33 : gT.1 (gs.1 0) = ((V 6 9)).toInt := RelC.kd rel
    have r34 : Int32.toInt 1 = 1 := by decide
    refine gA_int (gA_runV (As := [.int 1]) (rest := []) (ci := 1) (q0 := 1) hx hb hml hown hg hP hD hK hS hA hnw hgk (x_wrong2 l D ks H.size ad kk V L Z 1 hMV (by decide)) w867 w869 w6 w162 w870 rfl xgReader hdV_yX1_wrong ⟨Nat.le_of_ble_eq_true rfl, Nat.le_of_ble_eq_true rfl⟩ rfl hl.1 rfl (Nat.le_of_ble_eq_true rfl) dX1_isToldType_13 ⟨Nat.le_of_ble_eq_true rfl, Nat.le_of_ble_eq_true rfl⟩) hP hD hK hS hA (fun z35 u36 H locs w37 hP hD hK hS => ?_)
    obtain ⟨V40, L41⟩ := u36
    obtain ⟨hMV40, ajV40, axL41, rgz35, t38, t39⟩ := w37
    have axL41 : L = L41 := Eq.symm axL41
    subst axL41
    have hP : va_P D vwCl (xw ad kk V40 L Z) H := hP
    have hD : va_D A (xw ad kk V40 L Z) := hD
    have hMV40 : rgd bX V40 := hMV40
    have ajV40 : agr [(1, 3)] [] V V40 := ajV40
    have agV40 : agr [(1, 3), (1, 6)] [] V V40 := agV.tr ajV40 (by decide) (by decide)
    have rgz35 : 0 ≤ z35.toInt ∧ z35.toInt ≤ 0 := rgz35
    have t38 : 1 ≤ (V40 1 3).toInt := t38
    have t39 : (V40 1 3).toInt = (Int32.toInt 1) + 16 * (V 6 10).toInt := t39
    have r42 : 0 ≤ ((V 6 10)).toInt ∧ ((V 6 10)).toInt ≤ 4000 := hMV 6 10
    exact W.zret (v := z35) hx hb hr (nb_ok (by omega)) (fun t ht hW => ⟨⟨z35, (V40, L), rfl, ⟨hMV40, agV40, rfl, (show 0 ≤ z35.toInt ∧ z35.toInt ≤ 1 from by (first | exact om_641b3f05f166 rgz35.1 rgz35.2 | omega)), (Or.inr ⟨(by omega), fun kk => (look_1 (fun h9 => f32 (kd33.symm.trans h9)) kk).trans (fl_eq (RelC.st rel) (show (V40 1 3).toInt = 1 + 16 * (V 6 10).toInt from by (first | exact om_f884d2586d25 r34 t39 | omega)))⟩)⟩, by rw [ht]; exact hP, va_K.moved hW.alike hK, hD⟩, hS.F ht⟩) hS.2.2 dX1_isToldType_16
abbrev r_x_takeSetting3 : Room := { frames := 1, cells := 0, slots := 0, locals := 23 }
abbrev q_x_takeSetting3 (D : va_G) (ks : KS) (ad : Nat → Nat) (kk : Nat → ClassId) (V : Vf) (L : Lf) (Z : XZ) (b : Nat) (gT : Tk) (gs : St) (A : Nat → Prop) : Array Value → State → Outcome → State → Prop := va_Qi (fun (r : Int32) (u : Vf × Lf) => rgd bX u.1 ∧ agr [(1, 3), (1, 6), (6, 8), (6, 9), (6, 10)] [] V u.1 ∧ agL [6] L u.2 ∧ (0 ≤ r.toInt ∧ r.toInt ≤ 1) ∧ (KcN (look gT gs (gs.2.1 1)) r.toInt (u.1 1 3).toInt (fun f9 => RelC u.1 u.2 b gT (nx gs 1) ∧ (u.1 1 6).toInt = ((f9 : Nat) : Int) ∧ f9 < 12))) (fun u t => gq D A (xw ad kk u.1 u.2 Z) (xty kk Z) t) A
set_option maxHeartbeats 4000000 in
set_option maxRecDepth 100000 in
theorem x_takeSetting3 (l : Launch) (D : va_G) (ks : KS) (sz : Nat) (ad : Nat → Nat) (kk : Nat → ClassId) (V : Vf) (L : Lf) (Z : XZ) (b : Nat) (gT : Tk) (gs : St) (hMV : rgd bX V) (hb2 : b < 2) (rbk : (V 1 1).toInt = (b : Int)) (rel : RelC V L b gT gs)  : Met l yX1_takeSetting (Cond.code yX1_takeSetting cX1_takeSetting 1 (some .boolean) :: GW) r_x_takeSetting3 (va_Pc [.ref (ad 1)] (gp D ks (xw ad kk V L Z) (xty kk Z) sz)) (q_x_takeSetting3 D ks ad kk V L Z  b gT gs (va_A (xw ad kk V L Z) sz)) 0 0 (va_A (xw ad kk V L Z) sz) := by
  refine g_met (q_x_takeSetting3 D ks ad kk V L Z  b gT gs) (by decide) (Nat.le_of_ble_eq_true rfl) ?_
  intro p e s m below meth c A ls H locs hx hb hr hml hown hg hlocks hin hnw hgk hP hK hD hS hA hl
  have hown : s.vm.findClass RX1 = some m.cls := hown
  have hl : lv_has ls 1 [(0, .ref (ad 1))] := hl
  have hP : va_P D vwCl (xw ad kk V L Z) H := hP
  have hD : va_D A (xw ad kk V L Z) := hD
  have hK : va_K D vwCl (xty kk Z) s := hK
  have agV : agr [(1, 3), (1, 6), (6, 8), (6, 9), (6, 10)] [] V V := agr.rf
  have alL : agL [6] L L := agL.rf
  have r1 : (-1) ≤ ((V 1 1)).toInt ∧ ((V 1 1)).toInt ≤ 1 := hMV 1 1
  refine lv_aload_n hx hb dX1_takeSetting_0 rfl (lv_at hl 0 rfl) ?_
  refine va_get (D := D) (ci := 1) (v := .ref (ad 6)) (fs := (xfReader ad V L Z)) (C := RX1) (T := TX1) (N := 9) hx hb hg inX1 hown hK hP 1 xgReader rfl 0 (by decide) (hg _ w304) (fun _ h9 => h9) rfl dX1_takeSetting_1 ?_
  refine va_getN (D := D) (ci := 9) (v := .int (V 6 9)) (fs := (xfTape ad V L Z)) (C := RX9) (T := TX9) (N := 12) hx hb hg inX9 hown hK hP 6 xgTape rfl 9 (by decide) (hnw.use 262 n262 rfl) (fun _ h9 => h9) rfl dX1_takeSetting_4 ?_
  refine lv_iconst (v := 3) hx hb dX1_takeSetting_7 (by decide) ?_
  refine lv_icmp_eq (tgt := 17) hx hb dX1_takeSetting_8 (by decide) (fun c2 => ?_) (fun c2 => ?_)
  · skip
    have f3 : ((V 6 9)).toInt = 3 := b_eq rfl (by decide) c2
    have kd4 : gT.1 (gs.1 0) = ((V 6 9)).toInt := RelC.kd rel
    refine lv_aload_n hx hb dX1_takeSetting_17 rfl (lv_at hl 0 rfl) ?_
    refine lv_aload_n hx hb dX1_takeSetting_18 rfl (lv_at hl 0 rfl) ?_
    refine va_get (D := D) (ci := 1) (v := rfN ad 38 (V 1 1)) (fs := (xfReader ad V L Z)) (C := RX1) (T := TX1) (N := 9) hx hb hg inX1 hown hK hP 1 xgReader rfl 1 (by decide) (hg _ w305) (fun _ h9 => h9) rfl dX1_takeSetting_19 ?_
    refine g_topv (v := .ref (ad (38 + b))) (rfN_r (by omega)) ?_
    refine va_getN (D := D) (ci := 0) (v := .ref (ad (40 + (5 * b + 1)))) (fs := (xfBook ad V b)) (C := RX0) (T := TX0) (N := 13) hx hb hg inX0 hown hK hP (38 + b) (xgBook hb2) rfl 1 (by decide) (hnw.use 597 n597 rfl) (fun _ h9 => h9) rfl dX1_takeSetting_22 ?_
    refine lv_aload_n hx hb dX1_takeSetting_25 rfl (lv_at hl 0 rfl) ?_
    refine va_get (D := D) (ci := 1) (v := .ref (ad 6)) (fs := (xfReader ad V L Z)) (C := RX1) (T := TX1) (N := 9) hx hb hg inX1 hown hK hP 1 xgReader rfl 0 (by decide) (hg _ w304) (fun _ h9 => h9) rfl dX1_takeSetting_26 ?_
    refine va_getN (D := D) (ci := 9) (v := .long (L 6 11)) (fs := (xfTape ad V L Z)) (C := RX9) (T := TX9) (N := 12) hx hb hg inX9 hown hK hP 6 xgTape rfl 11 (by decide) (hnw.use 269 n269 rfl) (fun _ h9 => h9) rfl dX1_takeSetting_29 ?_
    have il5 : (5 * b + 1) < 10 := by (first | exact om_3891d7acfde9 hb2 | omega)
    refine gA_int (gA_runV (As := [.long (L 6 11)]) (rest := [.ref (ad 1)]) (ci := 6) (q0 := (40 + (5 * b + 1))) hx hb hml hown hg hP hD hK hS hA hnw hgk (x_find2 l D ks H.size ad kk V L Z (L 6 11) ((5 * b + 1)) hMV (show (5 * b + 1) < 10 from by (first | exact om_3891d7acfde9 hb2 | omega))) w892 w881 w882 w168 w883 rfl (xgNames il5) hdV_yX6_find ⟨Nat.le_of_ble_eq_true rfl, Nat.le_of_ble_eq_true rfl⟩ rfl hl.1 rfl (Nat.le_of_ble_eq_true rfl) dX1_takeSetting_32 ⟨Nat.le_of_ble_eq_true rfl, Nat.le_of_ble_eq_true rfl⟩) hP hD hK hS hA (fun z6 u7 H locs w8 hP hD hK hS => ?_)
    obtain ⟨rgz6, t9, t10⟩ := w8
    have rgz6 : (-1) ≤ z6.toInt ∧ z6.toInt ≤ 23 := rgz6
    have t9 : z6.toInt < (V 43 (5 * b + 1)).toInt := t9
    have t10 : NF (fun i => L 44 (24 * (5 * b + 1) + i)) (V 43 (5 * b + 1)).toInt (L 6 11) z6.toInt := t10
    have r11 : 0 ≤ ((V 43 (5 * b + 1))).toInt ∧ ((V 43 (5 * b + 1))).toInt ≤ ((xcap (5 * b + 1) : Nat) : Int) := hMV 43 (5 * b + 1)
    have r12 : xcap (5 * b + 1) = 12 := xcap_1
    refine va_put (D := D) (ci := 1) (v := .int z6) (ty := tyX1 6) (fs := (xfReader ad V L Z)) (C := RX1) (T := TX1) (N := 9) hx hb hg inX1 tyX1 tyX1_ok nmX1 hown hK hP hD hS 1 xgReader rfl 6 (by decide) (hg _ w310) (fun _ h9 => h9) rfl (tyX1_ok 6 (by decide)) rfl rfl (Nat.le_of_ble_eq_true rfl) dX1_takeSetting_35 (fun H locs hP hD hS => ?_)
    obtain ⟨V13, hV13⟩ : ∃ z, z = up2 V 1 6 z6 := ⟨_, rfl⟩
    have ew14 : (xw ad kk V L Z).set 1 ((ad 1), .inr (1, (xfReader ad V L Z).set 6 (.int z6))) = xw ad kk V13 L Z := by rw [hV13]; exact xw_ss (by decide) rfl (xb_si (by decide))
    have hP : va_P D vwCl (xw ad kk V13 L Z) H := by rw [← ew14]; exact hP
    have hD : va_D A (xw ad kk V13 L Z) := by rw [← ew14]; exact hD
    have hMV13 : rgd bX V13 := hMV.put hV13 (show (-1) ≤ z6.toInt ∧ z6.toInt ≤ 23 from by (first | exact om_764b853ca1c3 rgz6.1 t9 r11.2 r12 | omega))
    have agV13 : agr [(1, 3), (1, 6), (6, 8), (6, 9), (6, 10)] [] V V13 := agV.up hV13 rfl
    refine lv_aload_n hx hb dX1_takeSetting_38 rfl (lv_at hl 0 rfl) ?_
    refine va_get (D := D) (ci := 1) (v := .int (V13 1 6)) (fs := (xfReader ad V13 L Z)) (C := RX1) (T := TX1) (N := 9) hx hb hg inX1 hown hK hP 1 xgReader rfl 6 (by decide) (hg _ w310) (fun _ h9 => h9) rfl dX1_takeSetting_39 ?_
    refine g_top (v := z6) (up2_s hV13) ?_
    refine lv_iconst (v := (-1)) hx hb dX1_takeSetting_42 (by decide) ?_
    refine lv_icmp_ne (tgt := 52) hx hb dX1_takeSetting_43 (by decide) (fun c15 => ?_) (fun c15 => ?_)
    · skip
      have f16 : z6.toInt ≠ (-1) := b_neq rfl (by decide) c15
      refine lv_aload_n hx hb dX1_takeSetting_52 rfl (lv_at hl 0 rfl) ?_
      refine va_get (D := D) (ci := 1) (v := .ref (ad 6)) (fs := (xfReader ad V13 L Z)) (C := RX1) (T := TX1) (N := 9) hx hb hg inX1 hown hK hP 1 xgReader rfl 0 (by decide) (hg _ w304) (fun _ h9 => h9) rfl dX1_takeSetting_53 ?_
      have rl17 : RelC V13 L b gT gs := RelC.ag rel (show agr [(1, 6)] [] V V13 from (agr.up agr.rf hV13 rfl)) (by decide) (show agL [] L L from agL.rf) (by decide)
      have l818 := RelC.l8 rl17
      have pq19 : (V13 6 8).toInt = ((V 6 8)).toInt := congrArg Int32.toInt (up2_o hV13 (by decide))
      have r20 : 0 ≤ ((V 6 8)).toInt ∧ ((V 6 8)).toInt ≤ 4000 := hMV 6 8
      have pq21 : (V13 6 7).toInt = ((V 6 7)).toInt := congrArg Int32.toInt (up2_o hV13 (by decide))
      have r22 : 0 ≤ ((V 6 7)).toInt ∧ ((V 6 7)).toInt ≤ 4000 := hMV 6 7
      have pq23 : (V13 6 9).toInt = ((V 6 9)).toInt := congrArg Int32.toInt (up2_o hV13 (by decide))
      have lk24 := RelC.lk rl17 (show (V13 6 9).toInt ≠ 0 from by (first | exact om_bdb438930895 f3 pq23 | omega))
      refine gA_void (gA_runV (As := []) (rest := []) (ci := 9) (q0 := 6) hx hb hml hown hg hP hD hK hS hA hnw hgk (x_next2 l D ks H.size ad kk V13 L Z  hMV13 (show (V13 6 8).toInt ≤ (V13 6 7).toInt from by (first | exact om_f4906d00fa52 l818 | omega))) w871 w852 w853 w157 w854 rfl xgTape hdV_yX9_next ⟨Nat.le_of_ble_eq_true rfl, Nat.le_of_ble_eq_true rfl⟩ rfl hl.1 rfl (Nat.le_of_ble_eq_true rfl) dX1_takeSetting_56 ⟨Nat.le_of_ble_eq_true rfl, Nat.le_of_ble_eq_true rfl⟩) hP hD hK hS hA (fun u26 H locs w27 hP hD hK hS => ?_)
      obtain ⟨V30, L31⟩ := u26
      obtain ⟨hMV30, ajV30, axL31, t28, t29⟩ := w27
      have alL31 : agL [6] L L31 := agL.tr alL axL31 (by decide)
      have hP : va_P D vwCl (xw ad kk V30 L31 Z) H := hP
      have hD : va_D A (xw ad kk V30 L31 Z) := hD
      have hMV30 : rgd bX V30 := hMV30
      have ajV30 : agr [(6, 8), (6, 9), (6, 10)] [] V13 V30 := ajV30
      have agV30 : agr [(1, 3), (1, 6), (6, 8), (6, 9), (6, 10)] [] V V30 := agV13.tr ajV30 (by decide) (by decide)
      have t28 : (V30 6 8).toInt ≤ (V30 6 7).toInt := t28
      have t29 : CUR V30 L31 (Int32.toNatClampNeg (V13 6 8)) := t29
      have r32 : 0 ≤ ((V30 6 8)).toInt ∧ ((V30 6 8)).toInt ≤ 4000 := hMV30 6 8
      have pq33 : (V30 6 7).toInt = ((V 6 7)).toInt := congrArg Int32.toInt ((ajV30 6 7 rfl).trans (up2_o hV13 (by decide)))
      have rl34 : RelC V30 L31 b gT (nx gs 1) := RelC.nx1 rl17 ajV30 (by decide) axL31 (by decide) (by rw [← lk24]; exact t29) (ajV30 1 3 rfl)
      refine lv_iconst (v := 1) hx hb dX1_takeSetting_59 (by decide) ?_
      have pq35 : (V30 1 6).toInt = z6.toInt := congrArg Int32.toInt ((ajV30 1 6 rfl).trans (up2_s hV13))
      exact W.zret (v := 1) hx hb hr rfl (fun t ht hW => ⟨⟨1, (V30, L31), rfl, ⟨hMV30, agV30, alL31, (by decide), (Or.inl ⟨rfl, z6.toInt.toNat, fun kk => look_y (kd4.trans f3) (by rw [(RelC.vl rel)]; exact fnd_y rel.2.2.1 t10 (by decide) (by omega)) kk, rl34, (show (V30 1 6).toInt = ((z6.toInt.toNat : Nat) : Int) from by (first | exact om_9c959d5ccbf0 rgz6.1 f16 pq35 | omega)), (by omega)⟩)⟩, by rw [ht]; exact hP, va_K.moved hW.alike hK, hD⟩, hS.F ht⟩) hS.2.2 dX1_takeSetting_60
    · skip
      have f36 : z6.toInt = (-1) := b_eq rfl (by decide) c15
      refine lv_aload_n hx hb dX1_takeSetting_46 rfl (lv_at hl 0 rfl) ?_
      refine lv_iconst (v := 2) hx hb dX1_takeSetting_47 (by decide) ?_
      have rl37 : RelC V13 L b gT gs := RelC.ag rel (show agr [(1, 6)] [] V V13 from (agr.up agr.rf hV13 rfl)) (by decide) (show agL [] L L from agL.rf) (by decide)
      have r38 : Int32.toInt 2 = 2 := by decide
      refine gA_int (gA_runV (As := [.int 2]) (rest := []) (ci := 1) (q0 := 1) hx hb hml hown hg hP hD hK hS hA hnw hgk (x_wrong2 l D ks H.size ad kk V13 L Z 2 hMV13 (by decide)) w867 w869 w6 w162 w870 rfl xgReader hdV_yX1_wrong ⟨Nat.le_of_ble_eq_true rfl, Nat.le_of_ble_eq_true rfl⟩ rfl hl.1 rfl (Nat.le_of_ble_eq_true rfl) dX1_takeSetting_48 ⟨Nat.le_of_ble_eq_true rfl, Nat.le_of_ble_eq_true rfl⟩) hP hD hK hS hA (fun z39 u40 H locs w41 hP hD hK hS => ?_)
      obtain ⟨V44, L45⟩ := u40
      obtain ⟨hMV44, ajV44, axL45, rgz39, t42, t43⟩ := w41
      have axL45 : L = L45 := Eq.symm axL45
      subst axL45
      have hP : va_P D vwCl (xw ad kk V44 L Z) H := hP
      have hD : va_D A (xw ad kk V44 L Z) := hD
      have hMV44 : rgd bX V44 := hMV44
      have ajV44 : agr [(1, 3)] [] V13 V44 := ajV44
      have agV44 : agr [(1, 3), (1, 6), (6, 8), (6, 9), (6, 10)] [] V V44 := agV13.tr ajV44 (by decide) (by decide)
      have rgz39 : 0 ≤ z39.toInt ∧ z39.toInt ≤ 0 := rgz39
      have t42 : 1 ≤ (V44 1 3).toInt := t42
      have t43 : (V44 1 3).toInt = (Int32.toInt 2) + 16 * (V13 6 10).toInt := t43
      have pq46 : (V13 6 10).toInt = ((V 6 10)).toInt := congrArg Int32.toInt (up2_o hV13 (by decide))
      have r47 : 0 ≤ ((V 6 10)).toInt ∧ ((V 6 10)).toInt ≤ 4000 := hMV 6 10
      exact W.zret (v := z39) hx hb hr (nb_ok (by omega)) (fun t ht hW => ⟨⟨z39, (V44, L), rfl, ⟨hMV44, agV44, alL, (show 0 ≤ z39.toInt ∧ z39.toInt ≤ 1 from by (first | exact om_641b3f05f166 rgz39.1 rgz39.2 | omega)), (Or.inr ⟨(by omega), fun kk => (look_2 (kd4.trans f3) (by rw [(RelC.vl rel)]; exact fnd_n rel.2.2.1 t10 (by decide) (by omega)) kk).trans (fl_eq (RelC.st rl37) (show (V44 1 3).toInt = 2 + 16 * (V13 6 10).toInt from by (first | exact om_b40e2b615867 r38 t43 | omega)))⟩)⟩, by rw [ht]; exact hP, va_K.moved hW.alike hK, hD⟩, hS.F ht⟩) hS.2.2 dX1_takeSetting_51
  · skip
    have f48 : ((V 6 9)).toInt ≠ 3 := b_neq rfl (by decide) c2
    refine lv_aload_n hx hb dX1_takeSetting_11 rfl (lv_at hl 0 rfl) ?_
    refine lv_iconst (v := 1) hx hb dX1_takeSetting_12 (by decide) ?_
    have kd49 : gT.1 (gs.1 0) = ((V 6 9)).toInt := RelC.kd rel
    have r50 : Int32.toInt 1 = 1 := by decide
    refine gA_int (gA_runV (As := [.int 1]) (rest := []) (ci := 1) (q0 := 1) hx hb hml hown hg hP hD hK hS hA hnw hgk (x_wrong2 l D ks H.size ad kk V L Z 1 hMV (by decide)) w867 w869 w6 w162 w870 rfl xgReader hdV_yX1_wrong ⟨Nat.le_of_ble_eq_true rfl, Nat.le_of_ble_eq_true rfl⟩ rfl hl.1 rfl (Nat.le_of_ble_eq_true rfl) dX1_takeSetting_13 ⟨Nat.le_of_ble_eq_true rfl, Nat.le_of_ble_eq_true rfl⟩) hP hD hK hS hA (fun z51 u52 H locs w53 hP hD hK hS => ?_)
    obtain ⟨V56, L57⟩ := u52
    obtain ⟨hMV56, ajV56, axL57, rgz51, t54, t55⟩ := w53
    have axL57 : L = L57 := Eq.symm axL57
    subst axL57
    have hP : va_P D vwCl (xw ad kk V56 L Z) H := hP
    have hD : va_D A (xw ad kk V56 L Z) := hD
    have hMV56 : rgd bX V56 := hMV56
    have ajV56 : agr [(1, 3)] [] V V56 := ajV56
    have agV56 : agr [(1, 3), (1, 6), (6, 8), (6, 9), (6, 10)] [] V V56 := agV.tr ajV56 (by decide) (by decide)
    have rgz51 : 0 ≤ z51.toInt ∧ z51.toInt ≤ 0 := rgz51
    have t54 : 1 ≤ (V56 1 3).toInt := t54
    have t55 : (V56 1 3).toInt = (Int32.toInt 1) + 16 * (V 6 10).toInt := t55
    have r58 : 0 ≤ ((V 6 10)).toInt ∧ ((V 6 10)).toInt ≤ 4000 := hMV 6 10
    exact W.zret (v := z51) hx hb hr (nb_ok (by omega)) (fun t ht hW => ⟨⟨z51, (V56, L), rfl, ⟨hMV56, agV56, alL, (show 0 ≤ z51.toInt ∧ z51.toInt ≤ 1 from by (first | exact om_641b3f05f166 rgz51.1 rgz51.2 | omega)), (Or.inr ⟨(by omega), fun kk => (look_1 (fun h9 => f48 (kd49.symm.trans h9)) kk).trans (fl_eq (RelC.st rel) (show (V56 1 3).toInt = 1 + 16 * (V 6 10).toInt from by (first | exact om_f884d2586d25 r50 t55 | omega)))⟩)⟩, by rw [ht]; exact hP, va_K.moved hW.alike hK, hD⟩, hS.F ht⟩) hS.2.2 dX1_takeSetting_16
abbrev r_x_takeNumbered3 : Room := { frames := 1, cells := 0, slots := 0, locals := 22 }
abbrev q_x_takeNumbered3 (D : va_G) (ks : KS) (ad : Nat → Nat) (kk : Nat → ClassId) (V : Vf) (L : Lf) (Z : XZ) (p1 : Int32) (b : Nat) (gT : Tk) (gs : St) (gn : Nat) (gj : Nat) (A : Nat → Prop) : Array Value → State → Outcome → State → Prop := va_Qi (fun (r : Int32) (u : Vf × Lf) => rgd bX u.1 ∧ agr [(1, 3), (1, 6), (6, 8), (6, 9), (6, 10)] [43, 44] V u.1 ∧ agL [6, 44] L u.2 ∧ (0 ≤ r.toInt ∧ r.toInt ≤ 1) ∧ (KcS (nbrW gT gs gj) r.toInt (u.1 1 3).toInt (fun x9 => RelC u.1 u.2 b gT x9.2 ∧ (u.1 1 6).toInt = ((x9.1 : Nat) : Int) ∧ x9.1 < 20 ∧ keepS gs 1 x9.2)) ∧ (ROWL b L u.2)) (fun u t => gq D A (xw ad kk u.1 u.2 Z) (xty kk Z) t) A
set_option maxHeartbeats 4000000 in
set_option maxRecDepth 100000 in
theorem x_takeNumbered3 (l : Launch) (D : va_G) (ks : KS) (sz : Nat) (ad : Nat → Nat) (kk : Nat → ClassId) (V : Vf) (L : Lf) (Z : XZ) (p1 : Int32) (b : Nat) (gT : Tk) (gs : St) (gn : Nat) (gj : Nat) (hMV : rgd bX V) (rg_p1 : (-1) ≤ p1.toInt ∧ p1.toInt ≤ 19) (hb2 : b < 2) (rbk : (V 1 1).toInt = (b : Int)) (rel : RelC V L b gT gs) (hgn : gn < 10) (gnj : gn = 5 * b + gj) (gj3 : 3 ≤ gj) (gj5 : gj < 5) (cap9 : xcap gn = 20) (y1 : p1.toInt < (V 43 gn).toInt) (kd3 : (V 6 9).toInt = 3) (nf : NF (fun i => L 44 (24 * gn + i)) (V 43 gn).toInt (L 6 11) p1.toInt)  : Met l yX1_takeNumbered (Cond.code yX1_takeNumbered cX1_takeNumbered 3 (some .boolean) :: GW) r_x_takeNumbered3 (va_Pc [.ref (ad 1), .ref (ad (40 + gn)), .int p1] (gp D ks (xw ad kk V L Z) (xty kk Z) sz)) (q_x_takeNumbered3 D ks ad kk V L Z p1 b gT gs gn gj (va_A (xw ad kk V L Z) sz)) 0 0 (va_A (xw ad kk V L Z) sz) := by
  refine g_met (q_x_takeNumbered3 D ks ad kk V L Z p1 b gT gs gn gj) (by decide) (Nat.le_of_ble_eq_true rfl) ?_
  intro p e s m below meth c A ls H locs hx hb hr hml hown hg hlocks hin hnw hgk hP hK hD hS hA hl
  have hown : s.vm.findClass RX1 = some m.cls := hown
  have hl : lv_has ls 3 [(0, .ref (ad 1)), (1, .ref (ad (40 + gn))), (2, .int p1)] := hl
  have hP : va_P D vwCl (xw ad kk V L Z) H := hP
  have hD : va_D A (xw ad kk V L Z) := hD
  have hK : va_K D vwCl (xty kk Z) s := hK
  have agV : agr [(1, 3), (1, 6), (6, 8), (6, 9), (6, 10)] [43, 44] V V := agr.rf
  have alL : agL [6, 44] L L := agL.rf
  have rf_p1 := i_full p1
  have r1 : (-1) ≤ ((V 1 1)).toInt ∧ ((V 1 1)).toInt ≤ 1 := hMV 1 1
  have r2 : 0 ≤ ((V 43 gn)).toInt ∧ ((V 43 gn)).toInt ≤ ((xcap gn : Nat) : Int) := hMV 43 gn
  have r3 := xcap_le gn
  refine lv_aload_n hx hb dX1_takeNumbered_0 rfl (lv_at hl 0 rfl) ?_
  refine lv_iload_n hx hb dX1_takeNumbered_1 rfl (lv_at hl 2 rfl) ?_
  refine lv_iconst (v := (-1)) hx hb dX1_takeNumbered_2 (by decide) ?_
  refine lv_icmp_eq (tgt := 10) hx hb dX1_takeNumbered_3 (by decide) (fun c4 => ?_) (fun c4 => ?_)
  · skip
    have f5 : p1.toInt = (-1) := b_eq rfl (by decide) c4
    refine lv_aload_n hx hb dX1_takeNumbered_10 rfl (lv_at hl 1 rfl) ?_
    refine lv_aload_n hx hb dX1_takeNumbered_11 rfl (lv_at hl 0 rfl) ?_
    refine va_get (D := D) (ci := 1) (v := .ref (ad 6)) (fs := (xfReader ad V L Z)) (C := RX1) (T := TX1) (N := 9) hx hb hg inX1 hown hK hP 1 xgReader rfl 0 (by decide) (hg _ w304) (fun _ h9 => h9) rfl dX1_takeNumbered_12 ?_
    refine va_getN (D := D) (ci := 9) (v := .long (L 6 11)) (fs := (xfTape ad V L Z)) (C := RX9) (T := TX9) (N := 12) hx hb hg inX9 hown hK hP 6 xgTape rfl 11 (by decide) (hnw.use 269 n269 rfl) (fun _ h9 => h9) rfl dX1_takeNumbered_15 ?_
    refine gA_int (gA_runV (As := [.long (L 6 11)]) (rest := [.ref (ad 1)]) (ci := 6) (q0 := (40 + gn)) hx hb hml hown hg hP hD hK hS hA hnw hgk (x_add2 l D ks H.size ad kk V L Z (L 6 11) (gn) hMV (show gn < 10 from by (first | exact om_0e975414c0c5 hb2 gnj gj5 | omega))) w897 w898 w899 w168 w900 rfl (xgNames hgn) hdV_yX6_add ⟨Nat.le_of_ble_eq_true rfl, Nat.le_of_ble_eq_true rfl⟩ rfl hl.1 rfl (Nat.le_of_ble_eq_true rfl) dX1_takeNumbered_18 ⟨Nat.le_of_ble_eq_true rfl, Nat.le_of_ble_eq_true rfl⟩) hP hD hK hS hA (fun z6 u7 H locs w8 hP hD hK hS => ?_)
    obtain ⟨V14, L15⟩ := u7
    obtain ⟨hMV14, ajV14, axL15, fyV14, rgz6, t9, t10, t11, t12, t13⟩ := w8
    have alL15 : agL [6, 44] L L15 := agL.tr alL axL15 (by decide)
    have hP : va_P D vwCl (xw ad kk V14 L15 Z) H := hP
    have hD : va_D A (xw ad kk V14 L15 Z) := hD
    have hMV14 : rgd bX V14 := hMV14
    have ajV14 : agr [] [43, 44] V V14 := ajV14
    have agV14 : agr [(1, 3), (1, 6), (6, 8), (6, 9), (6, 10)] [43, 44] V V14 := agV.tr ajV14 (by decide) (by decide)
    have rgz6 : (-1) ≤ z6.toInt ∧ z6.toInt ≤ 23 := rgz6
    have t9 : z6.toInt < (V14 43 gn).toInt := t9
    have t10 : Imp ((V 43 gn).toInt < ((xcap gn : Nat) : Int)) (z6.toInt = (V 43 gn).toInt ∧ (V14 43 gn).toInt = (V 43 gn).toInt + 1) := t10
    have t11 : Imp (((xcap gn : Nat) : Int) ≤ (V 43 gn).toInt) (z6.toInt = -1 ∧ (V14 43 gn).toInt = (V 43 gn).toInt) := t11
    have t12 : ∀ n : Nat, ¬ n = gn → V14 43 n = V 43 n := t12
    have t13 : (z6.toInt = -1 ∧ L15 = L) ∨ (0 ≤ z6.toInt ∧ L15 = upL L 44 (24 * gn + Int32.toNatClampNeg (V 43 gn)) (L 6 11)) := t13
    have r20 : 0 ≤ (V 43 gn).toInt ∧ (V 43 gn).toInt ≤ ((xcap gn : Nat) : Int) := hMV 43 gn
    rcases t13 with ⟨q16, h17⟩ | ⟨q16, h17⟩
    · skip
      rcases Int.lt_or_le (V 43 gn).toInt ((xcap gn : Nat) : Int) with hc9 | hc9
      · skip
        have ig21 := Imp.go t10 hc9
        exfalso; (first | exact om_685a66b17c3d r2.1 q16 ig21.1 | omega)
      · skip
        have ig22 := Imp.go t11 hc9
        have rl23 : RelC V14 L15 b gT gs := RelC.add0 (gn := gn) rel ajV14 (by decide) t12 (by omega) h17
        refine va_put (D := D) (ci := 1) (v := .int z6) (ty := tyX1 6) (fs := (xfReader ad V14 L15 Z)) (C := RX1) (T := TX1) (N := 9) hx hb hg inX1 tyX1 tyX1_ok nmX1 hown hK hP hD hS 1 xgReader rfl 6 (by decide) (hg _ w310) (fun _ h9 => h9) rfl (tyX1_ok 6 (by decide)) rfl rfl (Nat.le_of_ble_eq_true rfl) dX1_takeNumbered_21 (fun H locs hP hD hS => ?_)
        obtain ⟨V24, hV24⟩ : ∃ z, z = up2 V14 1 6 z6 := ⟨_, rfl⟩
        have ew25 : (xw ad kk V14 L15 Z).set 1 ((ad 1), .inr (1, (xfReader ad V14 L15 Z).set 6 (.int z6))) = xw ad kk V24 L15 Z := by rw [hV24]; exact xw_ss (by decide) rfl (xb_si (by decide))
        have hP : va_P D vwCl (xw ad kk V24 L15 Z) H := by rw [← ew25]; exact hP
        have hD : va_D A (xw ad kk V24 L15 Z) := by rw [← ew25]; exact hD
        have hMV24 : rgd bX V24 := hMV14.put hV24 (show (-1) ≤ z6.toInt ∧ z6.toInt ≤ 23 from by first | exact om_b5ea211f5a81 rgz6.1 rgz6.2 | first | omega | ((try (have i_t11 := Imp.go t11 (by omega))); (try (have i_t10 := Imp.go t10 (by omega))); (try (have i_t10 := Imp.go t10 (by omega))); (try (have i_t11 := Imp.go t11 (by omega))); omega))
        have agV24 : agr [(1, 3), (1, 6), (6, 8), (6, 9), (6, 10)] [43, 44] V V24 := agV14.up hV24 rfl
        refine lv_aload_n hx hb dX1_takeNumbered_24 rfl (lv_at hl 0 rfl) ?_
        refine va_get (D := D) (ci := 1) (v := .int (V24 1 6)) (fs := (xfReader ad V24 L15 Z)) (C := RX1) (T := TX1) (N := 9) hx hb hg inX1 hown hK hP 1 xgReader rfl 6 (by decide) (hg _ w310) (fun _ h9 => h9) rfl dX1_takeNumbered_25 ?_
        refine g_top (v := z6) (up2_s hV24) ?_
        refine lv_iconst (v := (-1)) hx hb dX1_takeNumbered_28 (by decide) ?_
        refine lv_icmp_ne (tgt := 38) hx hb dX1_takeNumbered_29 (by decide) (fun c26 => ?_) (fun c26 => ?_)
        · skip
          have f27 : z6.toInt ≠ (-1) := b_neq rfl (by decide) c26
          exfalso; first | exact om_e12999c70aea rgz6.1 ig22.1 f27 | first | omega | ((try (have i_t11 := Imp.go t11 (by omega))); (try (have i_t10 := Imp.go t10 (by omega))); (try (have i_t10 := Imp.go t10 (by omega))); (try (have i_t11 := Imp.go t11 (by omega))); omega)
        · skip
          have f28 : z6.toInt = (-1) := b_eq rfl (by decide) c26
          refine lv_aload_n hx hb dX1_takeNumbered_32 rfl (lv_at hl 0 rfl) ?_
          refine lv_iconst (v := 5) hx hb dX1_takeNumbered_33 (by decide) ?_
          have rl29 : RelC V24 L15 b gT gs := RelC.ag rl23 (show agr [(1, 6)] [] V14 V24 from (agr.up agr.rf hV24 rfl)) (by decide) (show agL [] L15 L15 from agL.rf) (by decide)
          have kd30 : gT.1 (gs.1 0) = ((V 6 9)).toInt := (RelC.kd rl29).trans (congrArg Int32.toInt ((up2_o hV24 (by decide)).trans (ajV14 6 9 rfl)))
          have r31 : Int32.toInt 5 = 5 := by decide
          refine gA_int (gA_runV (As := [.int 5]) (rest := []) (ci := 1) (q0 := 1) hx hb hml hown hg hP hD hK hS hA hnw hgk (x_wrong2 l D ks H.size ad kk V24 L15 Z 5 hMV24 (by decide)) w867 w869 w6 w162 w870 rfl xgReader hdV_yX1_wrong ⟨Nat.le_of_ble_eq_true rfl, Nat.le_of_ble_eq_true rfl⟩ rfl hl.1 rfl (Nat.le_of_ble_eq_true rfl) dX1_takeNumbered_34 ⟨Nat.le_of_ble_eq_true rfl, Nat.le_of_ble_eq_true rfl⟩) hP hD hK hS hA (fun z32 u33 H locs w34 hP hD hK hS => ?_)
          obtain ⟨V37, L38⟩ := u33
          obtain ⟨hMV37, ajV37, axL38, rgz32, t35, t36⟩ := w34
          have axL38 : L15 = L38 := Eq.symm axL38
          subst axL38
          have hP : va_P D vwCl (xw ad kk V37 L15 Z) H := hP
          have hD : va_D A (xw ad kk V37 L15 Z) := hD
          have hMV37 : rgd bX V37 := hMV37
          have ajV37 : agr [(1, 3)] [] V24 V37 := ajV37
          have agV37 : agr [(1, 3), (1, 6), (6, 8), (6, 9), (6, 10)] [43, 44] V V37 := agV24.tr ajV37 (by decide) (by decide)
          have rgz32 : 0 ≤ z32.toInt ∧ z32.toInt ≤ 0 := rgz32
          have t35 : 1 ≤ (V37 1 3).toInt := t35
          have t36 : (V37 1 3).toInt = (Int32.toInt 5) + 16 * (V24 6 10).toInt := t36
          have pq39 : (V24 6 10).toInt = ((V 6 10)).toInt := congrArg Int32.toInt ((up2_o hV24 (by decide)).trans (ajV14 6 10 rfl))
          have r40 : 0 ≤ ((V 6 10)).toInt ∧ ((V 6 10)).toInt ≤ 4000 := hMV 6 10
          have rw41 : ROWL b L L15 := (fun k hk => ((ROWL.ad t13 t11 (hMV 43 _).1 (by omega) hk).trans rfl))
          exact W.zret (v := z32) hx hb hr (nb_ok (by omega)) (fun t ht hW => ⟨⟨z32, (V37, L15), rfl, ⟨hMV37, agV37, alL15, (show 0 ≤ z32.toInt ∧ z32.toInt ≤ 1 from by first | exact om_641b3f05f166 rgz32.1 rgz32.2 | first | omega | ((try (have i_t11 := Imp.go t11 (by omega))); (try (have i_t10 := Imp.go t10 (by omega))); (try (have i_t10 := Imp.go t10 (by omega))); (try (have i_t11 := Imp.go t11 (by omega))); omega)), (Or.inr ⟨(by omega), fun kk => (nbr_5 (by rw [RelC.vl rel]; exact fnd_ng rel.2.2.1 gnj nf gj5 (by omega)) (by have h9 := len_g rel.2.2.1 gnj gj5; omega) kk).trans (fl_eq (RelC.st rl29) (show (V37 1 3).toInt = 5 + 16 * (V24 6 10).toInt from by (first | exact om_fd8d4a8321fd r31 t36 | omega)))⟩), rw41⟩, by rw [ht]; exact hP, va_K.moved hW.alike hK, hD⟩, hS.F ht⟩) hS.2.2 dX1_takeNumbered_37
    · skip
      rcases Int.lt_or_le (V 43 gn).toInt ((xcap gn : Nat) : Int) with hc9 | hc9
      · skip
        have ig42 := Imp.go t10 hc9
        have rl43 : RelC V14 L15 b gT (sA gs gj (gT.2.1 (gs.1 0))) := RelC.addg (gn := gn) rel gnj (by omega) ajV14 (by decide) t12 (by omega) (by rw [RelC.vl rel]; exact h17) (sz24 hMV) (by omega)
        refine va_put (D := D) (ci := 1) (v := .int z6) (ty := tyX1 6) (fs := (xfReader ad V14 L15 Z)) (C := RX1) (T := TX1) (N := 9) hx hb hg inX1 tyX1 tyX1_ok nmX1 hown hK hP hD hS 1 xgReader rfl 6 (by decide) (hg _ w310) (fun _ h9 => h9) rfl (tyX1_ok 6 (by decide)) rfl rfl (Nat.le_of_ble_eq_true rfl) dX1_takeNumbered_21 (fun H locs hP hD hS => ?_)
        obtain ⟨V44, hV44⟩ : ∃ z, z = up2 V14 1 6 z6 := ⟨_, rfl⟩
        have ew45 : (xw ad kk V14 L15 Z).set 1 ((ad 1), .inr (1, (xfReader ad V14 L15 Z).set 6 (.int z6))) = xw ad kk V44 L15 Z := by rw [hV44]; exact xw_ss (by decide) rfl (xb_si (by decide))
        have hP : va_P D vwCl (xw ad kk V44 L15 Z) H := by rw [← ew45]; exact hP
        have hD : va_D A (xw ad kk V44 L15 Z) := by rw [← ew45]; exact hD
        have hMV44 : rgd bX V44 := hMV14.put hV44 (show (-1) ≤ z6.toInt ∧ z6.toInt ≤ 23 from by first | exact om_b5ea211f5a81 rgz6.1 rgz6.2 | first | omega | ((try (have i_t11 := Imp.go t11 (by omega))); (try (have i_t10 := Imp.go t10 (by omega))); (try (have i_t10 := Imp.go t10 (by omega))); (try (have i_t11 := Imp.go t11 (by omega))); omega))
        have agV44 : agr [(1, 3), (1, 6), (6, 8), (6, 9), (6, 10)] [43, 44] V V44 := agV14.up hV44 rfl
        refine lv_aload_n hx hb dX1_takeNumbered_24 rfl (lv_at hl 0 rfl) ?_
        refine va_get (D := D) (ci := 1) (v := .int (V44 1 6)) (fs := (xfReader ad V44 L15 Z)) (C := RX1) (T := TX1) (N := 9) hx hb hg inX1 hown hK hP 1 xgReader rfl 6 (by decide) (hg _ w310) (fun _ h9 => h9) rfl dX1_takeNumbered_25 ?_
        refine g_top (v := z6) (up2_s hV44) ?_
        refine lv_iconst (v := (-1)) hx hb dX1_takeNumbered_28 (by decide) ?_
        refine lv_icmp_ne (tgt := 38) hx hb dX1_takeNumbered_29 (by decide) (fun c46 => ?_) (fun c46 => ?_)
        · skip
          have f47 : z6.toInt ≠ (-1) := b_neq rfl (by decide) c46
          refine lv_aload_n hx hb dX1_takeNumbered_38 rfl (lv_at hl 0 rfl) ?_
          refine va_get (D := D) (ci := 1) (v := .ref (ad 6)) (fs := (xfReader ad V44 L15 Z)) (C := RX1) (T := TX1) (N := 9) hx hb hg inX1 hown hK hP 1 xgReader rfl 0 (by decide) (hg _ w304) (fun _ h9 => h9) rfl dX1_takeNumbered_39 ?_
          have rl48 : RelC V44 L15 b gT (sA gs gj (gT.2.1 (gs.1 0))) := RelC.ag rl43 (show agr [(1, 6)] [] V14 V44 from (agr.up agr.rf hV44 rfl)) (by decide) (show agL [] L15 L15 from agL.rf) (by decide)
          have l849 := RelC.l8 rl48
          have pq50 : (V44 6 8).toInt = ((V 6 8)).toInt := congrArg Int32.toInt ((up2_o hV44 (by decide)).trans (ajV14 6 8 rfl))
          have r51 : 0 ≤ ((V 6 8)).toInt ∧ ((V 6 8)).toInt ≤ 4000 := hMV 6 8
          have pq52 : (V44 6 7).toInt = ((V 6 7)).toInt := congrArg Int32.toInt ((up2_o hV44 (by decide)).trans (ajV14 6 7 rfl))
          have r53 : 0 ≤ ((V 6 7)).toInt ∧ ((V 6 7)).toInt ≤ 4000 := hMV 6 7
          have pq54 : (V44 6 9).toInt = ((V 6 9)).toInt := congrArg Int32.toInt ((up2_o hV44 (by decide)).trans (ajV14 6 9 rfl))
          have lk55 := RelC.lk rl48 (show (V44 6 9).toInt ≠ 0 from by (first | exact om_bdb438930895 kd3 pq54 | omega))
          refine gA_void (gA_runV (As := []) (rest := []) (ci := 9) (q0 := 6) hx hb hml hown hg hP hD hK hS hA hnw hgk (x_next2 l D ks H.size ad kk V44 L15 Z  hMV44 (show (V44 6 8).toInt ≤ (V44 6 7).toInt from by first | exact om_f4906d00fa52 l849 | first | omega | ((try (have i_t11 := Imp.go t11 (by omega))); (try (have i_t10 := Imp.go t10 (by omega))); (try (have i_t10 := Imp.go t10 (by omega))); (try (have i_t11 := Imp.go t11 (by omega))); omega))) w871 w852 w853 w157 w854 rfl xgTape hdV_yX9_next ⟨Nat.le_of_ble_eq_true rfl, Nat.le_of_ble_eq_true rfl⟩ rfl hl.1 rfl (Nat.le_of_ble_eq_true rfl) dX1_takeNumbered_42 ⟨Nat.le_of_ble_eq_true rfl, Nat.le_of_ble_eq_true rfl⟩) hP hD hK hS hA (fun u57 H locs w58 hP hD hK hS => ?_)
          obtain ⟨V61, L62⟩ := u57
          obtain ⟨hMV61, ajV61, axL62, t59, t60⟩ := w58
          have alL62 : agL [6, 44] L L62 := agL.tr alL15 axL62 (by decide)
          have hP : va_P D vwCl (xw ad kk V61 L62 Z) H := hP
          have hD : va_D A (xw ad kk V61 L62 Z) := hD
          have hMV61 : rgd bX V61 := hMV61
          have ajV61 : agr [(6, 8), (6, 9), (6, 10)] [] V44 V61 := ajV61
          have agV61 : agr [(1, 3), (1, 6), (6, 8), (6, 9), (6, 10)] [43, 44] V V61 := agV44.tr ajV61 (by decide) (by decide)
          have t59 : (V61 6 8).toInt ≤ (V61 6 7).toInt := t59
          have t60 : CUR V61 L62 (Int32.toNatClampNeg (V44 6 8)) := t60
          have r63 : 0 ≤ ((V61 6 8)).toInt ∧ ((V61 6 8)).toInt ≤ 4000 := hMV61 6 8
          have pq64 : (V61 6 7).toInt = ((V 6 7)).toInt := congrArg Int32.toInt ((ajV61 6 7 rfl).trans ((up2_o hV44 (by decide)).trans (ajV14 6 7 rfl)))
          have rl65 : RelC V61 L62 b gT (nx (sA gs gj (gT.2.1 (gs.1 0))) 1) := RelC.nx1 rl48 ajV61 (by decide) axL62 (by decide) (by rw [← lk55]; exact t60) (ajV61 1 3 rfl)
          refine lv_iconst (v := 1) hx hb dX1_takeNumbered_45 (by decide) ?_
          have pq66 : (V61 1 6).toInt = z6.toInt := congrArg Int32.toInt ((ajV61 1 6 rfl).trans (up2_s hV44))
          have lg9 := len_g rel.2.2.1 gnj gj5
          have rw67 : ROWL b L L62 := (fun k hk => ((axL62 44 k rfl).trans ((ROWL.ad t13 t11 (hMV 43 _).1 (by omega) hk).trans rfl)))
          exact W.zret (v := 1) hx hb hr rfl (fun t ht hW => ⟨⟨1, (V61, L62), rfl, ⟨hMV61, agV61, alL62, (by decide), (Or.inl ⟨rfl, ((gs.2.1 gj).length, sA (nx gs 1) gj (gT.2.1 (gs.1 0))), fun kk => nbr_n (by rw [RelC.vl rel]; exact fnd_ng rel.2.2.1 gnj nf gj5 (by omega)) (by omega) kk, (show RelC V61 L62 b gT (sA (nx gs 1) gj (gT.2.1 (gs.1 0))) from rl65), (show (V61 1 6).toInt = (((gs.2.1 gj).length : Nat) : Int) from by omega), (show (gs.2.1 gj).length < 20 from by omega), keepS.nA gj3⟩), rw67⟩, by rw [ht]; exact hP, va_K.moved hW.alike hK, hD⟩, hS.F ht⟩) hS.2.2 dX1_takeNumbered_46
        · skip
          have f68 : z6.toInt = (-1) := b_eq rfl (by decide) c46
          exfalso; first | exact om_99ddcb2137f1 r2.1 ig42.1 f68 | first | omega | ((try (have i_t11 := Imp.go t11 (by omega))); (try (have i_t10 := Imp.go t10 (by omega))); (try (have i_t10 := Imp.go t10 (by omega))); (try (have i_t11 := Imp.go t11 (by omega))); omega)
      · skip
        have ig69 := Imp.go t11 hc9
        exfalso; (first | exact om_336fd5583133 q16 ig69.1 | omega)
  · skip
    have f70 : p1.toInt ≠ (-1) := b_neq rfl (by decide) c4
    refine lv_iload_n hx hb dX1_takeNumbered_6 rfl (lv_at hl 2 rfl) ?_
    refine lv_goto (tgt := 21) hx hb dX1_takeNumbered_7 (by decide) ?_
    refine va_put (D := D) (ci := 1) (v := .int p1) (ty := tyX1 6) (fs := (xfReader ad V L Z)) (C := RX1) (T := TX1) (N := 9) hx hb hg inX1 tyX1 tyX1_ok nmX1 hown hK hP hD hS 1 xgReader rfl 6 (by decide) (hg _ w310) (fun _ h9 => h9) rfl (tyX1_ok 6 (by decide)) rfl rfl (Nat.le_of_ble_eq_true rfl) dX1_takeNumbered_21 (fun H locs hP hD hS => ?_)
    obtain ⟨V71, hV71⟩ : ∃ z, z = up2 V 1 6 p1 := ⟨_, rfl⟩
    have ew72 : (xw ad kk V L Z).set 1 ((ad 1), .inr (1, (xfReader ad V L Z).set 6 (.int p1))) = xw ad kk V71 L Z := by rw [hV71]; exact xw_ss (by decide) rfl (xb_si (by decide))
    have hP : va_P D vwCl (xw ad kk V71 L Z) H := by rw [← ew72]; exact hP
    have hD : va_D A (xw ad kk V71 L Z) := by rw [← ew72]; exact hD
    have hMV71 : rgd bX V71 := hMV.put hV71 (show (-1) ≤ p1.toInt ∧ p1.toInt ≤ 23 from by (first | exact om_b2b5778913cf rg_p1.1 rg_p1.2 f70 | omega))
    have agV71 : agr [(1, 3), (1, 6), (6, 8), (6, 9), (6, 10)] [43, 44] V V71 := agV.up hV71 rfl
    refine lv_aload_n hx hb dX1_takeNumbered_24 rfl (lv_at hl 0 rfl) ?_
    refine va_get (D := D) (ci := 1) (v := .int (V71 1 6)) (fs := (xfReader ad V71 L Z)) (C := RX1) (T := TX1) (N := 9) hx hb hg inX1 hown hK hP 1 xgReader rfl 6 (by decide) (hg _ w310) (fun _ h9 => h9) rfl dX1_takeNumbered_25 ?_
    refine g_top (v := p1) (up2_s hV71) ?_
    refine lv_iconst (v := (-1)) hx hb dX1_takeNumbered_28 (by decide) ?_
    refine lv_icmp_ne (tgt := 38) hx hb dX1_takeNumbered_29 (by decide) (fun c73 => ?_) (fun c73 => ?_)
    · skip
      have f74 : p1.toInt ≠ (-1) := b_neq rfl (by decide) c73
      refine lv_aload_n hx hb dX1_takeNumbered_38 rfl (lv_at hl 0 rfl) ?_
      refine va_get (D := D) (ci := 1) (v := .ref (ad 6)) (fs := (xfReader ad V71 L Z)) (C := RX1) (T := TX1) (N := 9) hx hb hg inX1 hown hK hP 1 xgReader rfl 0 (by decide) (hg _ w304) (fun _ h9 => h9) rfl dX1_takeNumbered_39 ?_
      have rl75 : RelC V71 L b gT gs := RelC.ag rel (show agr [(1, 6)] [] V V71 from (agr.up agr.rf hV71 rfl)) (by decide) (show agL [] L L from agL.rf) (by decide)
      have l876 := RelC.l8 rl75
      have pq77 : (V71 6 8).toInt = ((V 6 8)).toInt := congrArg Int32.toInt (up2_o hV71 (by decide))
      have r78 : 0 ≤ ((V 6 8)).toInt ∧ ((V 6 8)).toInt ≤ 4000 := hMV 6 8
      have pq79 : (V71 6 7).toInt = ((V 6 7)).toInt := congrArg Int32.toInt (up2_o hV71 (by decide))
      have r80 : 0 ≤ ((V 6 7)).toInt ∧ ((V 6 7)).toInt ≤ 4000 := hMV 6 7
      have pq81 : (V71 6 9).toInt = ((V 6 9)).toInt := congrArg Int32.toInt (up2_o hV71 (by decide))
      have lk82 := RelC.lk rl75 (show (V71 6 9).toInt ≠ 0 from by (first | exact om_bdb438930895 kd3 pq81 | omega))
      refine gA_void (gA_runV (As := []) (rest := []) (ci := 9) (q0 := 6) hx hb hml hown hg hP hD hK hS hA hnw hgk (x_next2 l D ks H.size ad kk V71 L Z  hMV71 (show (V71 6 8).toInt ≤ (V71 6 7).toInt from by (first | exact om_f4906d00fa52 l876 | omega))) w871 w852 w853 w157 w854 rfl xgTape hdV_yX9_next ⟨Nat.le_of_ble_eq_true rfl, Nat.le_of_ble_eq_true rfl⟩ rfl hl.1 rfl (Nat.le_of_ble_eq_true rfl) dX1_takeNumbered_42 ⟨Nat.le_of_ble_eq_true rfl, Nat.le_of_ble_eq_true rfl⟩) hP hD hK hS hA (fun u84 H locs w85 hP hD hK hS => ?_)
      obtain ⟨V88, L89⟩ := u84
      obtain ⟨hMV88, ajV88, axL89, t86, t87⟩ := w85
      have alL89 : agL [6, 44] L L89 := agL.tr alL axL89 (by decide)
      have hP : va_P D vwCl (xw ad kk V88 L89 Z) H := hP
      have hD : va_D A (xw ad kk V88 L89 Z) := hD
      have hMV88 : rgd bX V88 := hMV88
      have ajV88 : agr [(6, 8), (6, 9), (6, 10)] [] V71 V88 := ajV88
      have agV88 : agr [(1, 3), (1, 6), (6, 8), (6, 9), (6, 10)] [43, 44] V V88 := agV71.tr ajV88 (by decide) (by decide)
      have t86 : (V88 6 8).toInt ≤ (V88 6 7).toInt := t86
      have t87 : CUR V88 L89 (Int32.toNatClampNeg (V71 6 8)) := t87
      have r90 : 0 ≤ ((V88 6 8)).toInt ∧ ((V88 6 8)).toInt ≤ 4000 := hMV88 6 8
      have pq91 : (V88 6 7).toInt = ((V 6 7)).toInt := congrArg Int32.toInt ((ajV88 6 7 rfl).trans (up2_o hV71 (by decide)))
      have rl92 : RelC V88 L89 b gT (nx gs 1) := RelC.nx1 rl75 ajV88 (by decide) axL89 (by decide) (by rw [← lk82]; exact t87) (ajV88 1 3 rfl)
      refine lv_iconst (v := 1) hx hb dX1_takeNumbered_45 (by decide) ?_
      have pq93 : (V88 1 6).toInt = p1.toInt := congrArg Int32.toInt ((ajV88 1 6 rfl).trans (up2_s hV71))
      have rw94 : ROWL b L L89 := (fun k hk => ((axL89 44 k rfl).trans rfl))
      exact W.zret (v := 1) hx hb hr rfl (fun t ht hW => ⟨⟨1, (V88, L89), rfl, ⟨hMV88, agV88, alL89, (by decide), (Or.inl ⟨rfl, (p1.toInt.toNat, nx gs 1), fun kk => nbr_y (by rw [RelC.vl rel]; exact fnd_yg rel.2.2.1 gnj nf gj5 (by omega)) kk, rl92, (show (V88 1 6).toInt = ((p1.toInt.toNat : Nat) : Int) from by (first | exact om_9c959d5ccbf0 rg_p1.1 f70 pq93 | omega)), (show p1.toInt.toNat < 20 from by (first | exact om_d0b97c48bf8f rg_p1.1 rg_p1.2 f70 | omega)), keepS.n1 1⟩), rw94⟩, by rw [ht]; exact hP, va_K.moved hW.alike hK, hD⟩, hS.F ht⟩) hS.2.2 dX1_takeNumbered_46
    · skip
      have f95 : p1.toInt = (-1) := b_eq rfl (by decide) c73
      exfalso; (first | exact om_9038406c8093 rg_p1.1 f70 f95 | omega)
abbrev r_x_takeMethodN3 : Room := { frames := 2, cells := 0, slots := 0, locals := 44 }
abbrev q_x_takeMethodN3 (D : va_G) (ks : KS) (ad : Nat → Nat) (kk : Nat → ClassId) (V : Vf) (L : Lf) (Z : XZ) (b : Nat) (gT : Tk) (gs : St) (A : Nat → Prop) : Array Value → State → Outcome → State → Prop := va_Qi (fun (r : Int32) (u : Vf × Lf) => rgd bX u.1 ∧ agr [(1, 3), (1, 6), (6, 8), (6, 9), (6, 10)] [43, 44] V u.1 ∧ agL [6, 44] L u.2 ∧ (0 ≤ r.toInt ∧ r.toInt ≤ 1) ∧ (KcS (mthW gT gs 3) r.toInt (u.1 1 3).toInt (fun x9 => RelC u.1 u.2 b gT x9.2 ∧ (u.1 1 6).toInt = ((x9.1 : Nat) : Int) ∧ x9.1 < 20 ∧ keepS gs 1 x9.2)) ∧ (ROWL b L u.2)) (fun u t => gq D A (xw ad kk u.1 u.2 Z) (xty kk Z) t) A
set_option maxHeartbeats 4000000 in
set_option maxRecDepth 100000 in
theorem x_takeMethodN3 (l : Launch) (D : va_G) (ks : KS) (sz : Nat) (ad : Nat → Nat) (kk : Nat → ClassId) (V : Vf) (L : Lf) (Z : XZ) (b : Nat) (gT : Tk) (gs : St) (hMV : rgd bX V) (hb2 : b < 2) (rbk : (V 1 1).toInt = (b : Int)) (rel : RelC V L b gT gs)  : Met l yX1_takeMethod (Cond.code yX1_takeMethod cX1_takeMethod 3 (some .boolean) :: GW) r_x_takeMethodN3 (va_Pc [.ref (ad 1), .null] (gp D ks (xw ad kk V L Z) (xty kk Z) sz)) (q_x_takeMethodN3 D ks ad kk V L Z  b gT gs (va_A (xw ad kk V L Z) sz)) 0 0 (va_A (xw ad kk V L Z) sz) := by
  refine g_met (q_x_takeMethodN3 D ks ad kk V L Z  b gT gs) (by decide) (Nat.le_of_ble_eq_true rfl) ?_
  intro p e s m below meth c A ls H locs hx hb hr hml hown hg hlocks hin hnw hgk hP hK hD hS hA hl
  have hown : s.vm.findClass RX1 = some m.cls := hown
  have hl : lv_has ls 3 [(0, .ref (ad 1)), (1, .null)] := hl
  have hP : va_P D vwCl (xw ad kk V L Z) H := hP
  have hD : va_D A (xw ad kk V L Z) := hD
  have hK : va_K D vwCl (xty kk Z) s := hK
  have agV : agr [(1, 3), (1, 6), (6, 8), (6, 9), (6, 10)] [43, 44] V V := agr.rf
  have alL : agL [6, 44] L L := agL.rf
  have r1 : (-1) ≤ ((V 1 1)).toInt ∧ ((V 1 1)).toInt ≤ 1 := hMV 1 1
  refine lv_aload_n hx hb dX1_takeMethod_0 rfl (lv_at hl 0 rfl) ?_
  refine va_get (D := D) (ci := 1) (v := .ref (ad 6)) (fs := (xfReader ad V L Z)) (C := RX1) (T := TX1) (N := 9) hx hb hg inX1 hown hK hP 1 xgReader rfl 0 (by decide) (hg _ w304) (fun _ h9 => h9) rfl dX1_takeMethod_1 ?_
  refine va_getN (D := D) (ci := 9) (v := .int (V 6 9)) (fs := (xfTape ad V L Z)) (C := RX9) (T := TX9) (N := 12) hx hb hg inX9 hown hK hP 6 xgTape rfl 9 (by decide) (hnw.use 262 n262 rfl) (fun _ h9 => h9) rfl dX1_takeMethod_4 ?_
  refine lv_iconst (v := 3) hx hb dX1_takeMethod_7 (by decide) ?_
  refine lv_icmp_eq (tgt := 17) hx hb dX1_takeMethod_8 (by decide) (fun c2 => ?_) (fun c2 => ?_)
  · skip
    have f3 : ((V 6 9)).toInt = 3 := b_eq rfl (by decide) c2
    have kd4 : gT.1 (gs.1 0) = ((V 6 9)).toInt := RelC.kd rel
    refine lv_aload_n hx hb dX1_takeMethod_17 rfl (lv_at hl 0 rfl) ?_
    refine va_get (D := D) (ci := 1) (v := rfN ad 38 (V 1 1)) (fs := (xfReader ad V L Z)) (C := RX1) (T := TX1) (N := 9) hx hb hg inX1 hown hK hP 1 xgReader rfl 1 (by decide) (hg _ w305) (fun _ h9 => h9) rfl dX1_takeMethod_18 ?_
    refine g_topv (v := .ref (ad (38 + b))) (rfN_r (by omega)) ?_
    refine va_getN (D := D) (ci := 0) (v := .ref (ad (40 + (5 * b + 3)))) (fs := (xfBook ad V b)) (C := RX0) (T := TX0) (N := 13) hx hb hg inX0 hown hK hP (38 + b) (xgBook hb2) rfl 3 (by decide) (hnw.use 605 n605 rfl) (fun _ h9 => h9) rfl dX1_takeMethod_21 ?_
    refine lv_aload_n hx hb dX1_takeMethod_24 rfl (lv_at hl 0 rfl) ?_
    refine va_get (D := D) (ci := 1) (v := .ref (ad 6)) (fs := (xfReader ad V L Z)) (C := RX1) (T := TX1) (N := 9) hx hb hg inX1 hown hK hP 1 xgReader rfl 0 (by decide) (hg _ w304) (fun _ h9 => h9) rfl dX1_takeMethod_25 ?_
    refine va_getN (D := D) (ci := 9) (v := .long (L 6 11)) (fs := (xfTape ad V L Z)) (C := RX9) (T := TX9) (N := 12) hx hb hg inX9 hown hK hP 6 xgTape rfl 11 (by decide) (hnw.use 269 n269 rfl) (fun _ h9 => h9) rfl dX1_takeMethod_28 ?_
    have il5 : (5 * b + 3) < 10 := by (first | exact om_a4f98a710256 hb2 | omega)
    refine gA_int (gA_runV (As := [.long (L 6 11)]) (rest := []) (ci := 6) (q0 := (40 + (5 * b + 3))) hx hb hml hown hg hP hD hK hS hA hnw hgk (x_find2 l D ks H.size ad kk V L Z (L 6 11) ((5 * b + 3)) hMV (show (5 * b + 3) < 10 from by (first | exact om_a4f98a710256 hb2 | omega))) w892 w881 w882 w168 w883 rfl (xgNames il5) hdV_yX6_find ⟨Nat.le_of_ble_eq_true rfl, Nat.le_of_ble_eq_true rfl⟩ rfl hl.1 rfl (Nat.le_of_ble_eq_true rfl) dX1_takeMethod_31 ⟨Nat.le_of_ble_eq_true rfl, Nat.le_of_ble_eq_true rfl⟩) hP hD hK hS hA (fun z6 u7 H locs w8 hP hD hK hS => ?_)
    obtain ⟨rgz6, t9, t10⟩ := w8
    have rgz6 : (-1) ≤ z6.toInt ∧ z6.toInt ≤ 23 := rgz6
    have t9 : z6.toInt < (V 43 (5 * b + 3)).toInt := t9
    have t10 : NF (fun i => L 44 (24 * (5 * b + 3) + i)) (V 43 (5 * b + 3)).toInt (L 6 11) z6.toInt := t10
    refine lv_istore_n (lv' := [(2, .int z6), (0, .ref (ad 1)), (1, .null)]) hx hb dX1_takeMethod_34 rfl hl (by decide) rfl (fun ls hl => ?_)
    have r11 : xcap (5 * b + 3) = 20 := xcap_3
    refine lv_iload_n hx hb dX1_takeMethod_35 rfl (lv_at hl 0 rfl) ?_
    refine lv_iconst (v := (-1)) hx hb dX1_takeMethod_36 (by decide) ?_
    refine lv_icmp_eq (tgt := 60) hx hb dX1_takeMethod_37 (by decide) (fun c12 => ?_) (fun c12 => ?_)
    · skip
      have f13 : z6.toInt = (-1) := b_eq rfl (by decide) c12
      refine lv_aload_n hx hb dX1_takeMethod_60 rfl (lv_at hl 1 rfl) ?_
      refine lv_aload_n hx hb dX1_takeMethod_61 rfl (lv_at hl 1 rfl) ?_
      refine va_get (D := D) (ci := 1) (v := rfN ad 38 (V 1 1)) (fs := (xfReader ad V L Z)) (C := RX1) (T := TX1) (N := 9) hx hb hg inX1 hown hK hP 1 xgReader rfl 1 (by decide) (hg _ w305) (fun _ h9 => h9) rfl dX1_takeMethod_62 ?_
      refine g_topv (v := .ref (ad (38 + b))) (rfN_r (by omega)) ?_
      refine va_getN (D := D) (ci := 0) (v := .ref (ad (40 + (5 * b + 3)))) (fs := (xfBook ad V b)) (C := RX0) (T := TX0) (N := 13) hx hb hg inX0 hown hK hP (38 + b) (xgBook hb2) rfl 3 (by decide) (hnw.use 605 n605 rfl) (fun _ h9 => h9) rfl dX1_takeMethod_65 ?_
      refine lv_iload_n hx hb dX1_takeMethod_68 rfl (lv_at hl 0 rfl) ?_
      have r14 : 0 ≤ ((V 43 (5 * b + 3))).toInt ∧ ((V 43 (5 * b + 3))).toInt ≤ ((xcap (5 * b + 3) : Nat) : Int) := hMV 43 (5 * b + 3)
      refine gA_int (gA_runV (As := [.ref (ad (40 + (5 * b + 3))), .int z6]) (rest := []) (ci := 1) (q0 := 1) hx hb hml hown hg hP hD hK hS hA hnw hgk (x_takeNumbered3 l D ks H.size ad kk V L Z z6 (b) (gT) (gs) ((5 * b + 3)) (3) hMV (by (first | exact om_dd34aae1cbce rgz6.1 f13 | omega)) (show b < 2 from by (first | exact om_f940a4667dd6 hb2 | omega)) (show (V 1 1).toInt = (b : Int) from by (first | exact om_08e0c9701055 rbk | omega)) rel (show (5 * b + 3) < 10 from by (first | exact om_a4f98a710256 hb2 | omega)) (show (5 * b + 3) = 5 * b + 3 from by (first | exact om_dfbd6d18b5e3 | omega)) (show 3 ≤ 3 from by omega) (show 3 < 5 from by omega) (show xcap (5 * b + 3) = 20 from by (first | exact om_08a271bb3383 r11 | omega)) (show z6.toInt < (V 43 (5 * b + 3)).toInt from by (first | exact om_3e9fea077503 f13 r14.1 | omega)) (show (V 6 9).toInt = 3 from by (first | exact om_395e3da5ee0d f3 | omega)) t10) w927 w929 w16 w162 w930 rfl xgReader hdV_yX1_takeNumbered ⟨Nat.le_of_ble_eq_true rfl, Nat.le_of_ble_eq_true rfl⟩ rfl hl.1 rfl (Nat.le_of_ble_eq_true rfl) dX1_takeMethod_69 ⟨Nat.le_of_ble_eq_true rfl, Nat.le_of_ble_eq_true rfl⟩) hP hD hK hS hA (fun z15 u16 H locs w17 hP hD hK hS => ?_)
      obtain ⟨V20, L21⟩ := u16
      obtain ⟨hMV20, ajV20, axL21, rgz15, t18, t19⟩ := w17
      have alL21 : agL [6, 44] L L21 := agL.tr alL axL21 (by decide)
      have hP : va_P D vwCl (xw ad kk V20 L21 Z) H := hP
      have hD : va_D A (xw ad kk V20 L21 Z) := hD
      have hMV20 : rgd bX V20 := hMV20
      have ajV20 : agr [(1, 3), (1, 6), (6, 8), (6, 9), (6, 10)] [43, 44] V V20 := ajV20
      have agV20 : agr [(1, 3), (1, 6), (6, 8), (6, 9), (6, 10)] [43, 44] V V20 := agV.tr ajV20 (by decide) (by decide)
      have rgz15 : 0 ≤ z15.toInt ∧ z15.toInt ≤ 1 := rgz15
      have t18 : KcS (nbrW gT gs 3) z15.toInt (V20 1 3).toInt (fun x9 => RelC V20 L21 b gT x9.2 ∧ (V20 1 6).toInt = ((x9.1 : Nat) : Int) ∧ x9.1 < 20 ∧ keepS gs 1 x9.2) := t18
      have t19 : ROWL b L L21 := t19
      have rw22 : ROWL b L L21 := (fun k hk => ((t19 k hk).trans rfl))
      exact W.zret (v := z15) hx hb hr (nb_ok (by omega)) (fun t ht hW => ⟨⟨z15, (V20, L21), rfl, ⟨hMV20, agV20, alL21, (show 0 ≤ z15.toInt ∧ z15.toInt ≤ 1 from by (first | exact om_eb7af9d60398 rgz15.1 rgz15.2 | omega)), (Kc_mth (kd4.trans f3) t18), rw22⟩, by rw [ht]; exact hP, va_K.moved hW.alike hK, hD⟩, hS.F ht⟩) hS.2.2 dX1_takeMethod_72
    · skip
      have f23 : z6.toInt ≠ (-1) := b_neq rfl (by decide) c12
      refine lv_aload_nN hx hb dX1_takeMethod_40 rfl (lv_at hl 2 rfl) ?_
      refine lv_ifnullN (tgt := 60) hx hb dX1_takeMethod_41 (by decide) ?_
      refine lv_aload_n hx hb dX1_takeMethod_60 rfl (lv_at hl 1 rfl) ?_
      refine lv_aload_n hx hb dX1_takeMethod_61 rfl (lv_at hl 1 rfl) ?_
      refine va_get (D := D) (ci := 1) (v := rfN ad 38 (V 1 1)) (fs := (xfReader ad V L Z)) (C := RX1) (T := TX1) (N := 9) hx hb hg inX1 hown hK hP 1 xgReader rfl 1 (by decide) (hg _ w305) (fun _ h9 => h9) rfl dX1_takeMethod_62 ?_
      refine g_topv (v := .ref (ad (38 + b))) (rfN_r (by omega)) ?_
      refine va_getN (D := D) (ci := 0) (v := .ref (ad (40 + (5 * b + 3)))) (fs := (xfBook ad V b)) (C := RX0) (T := TX0) (N := 13) hx hb hg inX0 hown hK hP (38 + b) (xgBook hb2) rfl 3 (by decide) (hnw.use 605 n605 rfl) (fun _ h9 => h9) rfl dX1_takeMethod_65 ?_
      refine lv_iload_n hx hb dX1_takeMethod_68 rfl (lv_at hl 0 rfl) ?_
      have r24 : 0 ≤ ((V 43 (5 * b + 3))).toInt ∧ ((V 43 (5 * b + 3))).toInt ≤ ((xcap (5 * b + 3) : Nat) : Int) := hMV 43 (5 * b + 3)
      refine gA_int (gA_runV (As := [.ref (ad (40 + (5 * b + 3))), .int z6]) (rest := []) (ci := 1) (q0 := 1) hx hb hml hown hg hP hD hK hS hA hnw hgk (x_takeNumbered3 l D ks H.size ad kk V L Z z6 (b) (gT) (gs) ((5 * b + 3)) (3) hMV (by (first | exact om_14f593a12ed5 rgz6.1 t9 r11 f23 r24.2 | omega)) (show b < 2 from by (first | exact om_f940a4667dd6 hb2 | omega)) (show (V 1 1).toInt = (b : Int) from by (first | exact om_08e0c9701055 rbk | omega)) rel (show (5 * b + 3) < 10 from by (first | exact om_a4f98a710256 hb2 | omega)) (show (5 * b + 3) = 5 * b + 3 from by (first | exact om_dfbd6d18b5e3 | omega)) (show 3 ≤ 3 from by omega) (show 3 < 5 from by omega) (show xcap (5 * b + 3) = 20 from by (first | exact om_08a271bb3383 r11 | omega)) (show z6.toInt < (V 43 (5 * b + 3)).toInt from by (first | exact om_0e9116797efb t9 | omega)) (show (V 6 9).toInt = 3 from by (first | exact om_395e3da5ee0d f3 | omega)) t10) w927 w929 w16 w162 w930 rfl xgReader hdV_yX1_takeNumbered ⟨Nat.le_of_ble_eq_true rfl, Nat.le_of_ble_eq_true rfl⟩ rfl hl.1 rfl (Nat.le_of_ble_eq_true rfl) dX1_takeMethod_69 ⟨Nat.le_of_ble_eq_true rfl, Nat.le_of_ble_eq_true rfl⟩) hP hD hK hS hA (fun z25 u26 H locs w27 hP hD hK hS => ?_)
      obtain ⟨V30, L31⟩ := u26
      obtain ⟨hMV30, ajV30, axL31, rgz25, t28, t29⟩ := w27
      have alL31 : agL [6, 44] L L31 := agL.tr alL axL31 (by decide)
      have hP : va_P D vwCl (xw ad kk V30 L31 Z) H := hP
      have hD : va_D A (xw ad kk V30 L31 Z) := hD
      have hMV30 : rgd bX V30 := hMV30
      have ajV30 : agr [(1, 3), (1, 6), (6, 8), (6, 9), (6, 10)] [43, 44] V V30 := ajV30
      have agV30 : agr [(1, 3), (1, 6), (6, 8), (6, 9), (6, 10)] [43, 44] V V30 := agV.tr ajV30 (by decide) (by decide)
      have rgz25 : 0 ≤ z25.toInt ∧ z25.toInt ≤ 1 := rgz25
      have t28 : KcS (nbrW gT gs 3) z25.toInt (V30 1 3).toInt (fun x9 => RelC V30 L31 b gT x9.2 ∧ (V30 1 6).toInt = ((x9.1 : Nat) : Int) ∧ x9.1 < 20 ∧ keepS gs 1 x9.2) := t28
      have t29 : ROWL b L L31 := t29
      have rw32 : ROWL b L L31 := (fun k hk => ((t29 k hk).trans rfl))
      exact W.zret (v := z25) hx hb hr (nb_ok (by omega)) (fun t ht hW => ⟨⟨z25, (V30, L31), rfl, ⟨hMV30, agV30, alL31, (show 0 ≤ z25.toInt ∧ z25.toInt ≤ 1 from by (first | exact om_eb7af9d60398 rgz25.1 rgz25.2 | omega)), (Kc_mth (kd4.trans f3) t28), rw32⟩, by rw [ht]; exact hP, va_K.moved hW.alike hK, hD⟩, hS.F ht⟩) hS.2.2 dX1_takeMethod_72
  · skip
    have f33 : ((V 6 9)).toInt ≠ 3 := b_neq rfl (by decide) c2
    refine lv_aload_n hx hb dX1_takeMethod_11 rfl (lv_at hl 0 rfl) ?_
    refine lv_iconst (v := 1) hx hb dX1_takeMethod_12 (by decide) ?_
    have kd34 : gT.1 (gs.1 0) = ((V 6 9)).toInt := RelC.kd rel
    have r35 : Int32.toInt 1 = 1 := by decide
    refine gA_int (gA_runV (As := [.int 1]) (rest := []) (ci := 1) (q0 := 1) hx hb hml hown hg hP hD hK hS hA hnw hgk (x_wrong2 l D ks H.size ad kk V L Z 1 hMV (by decide)) w867 w869 w6 w162 w870 rfl xgReader hdV_yX1_wrong ⟨Nat.le_of_ble_eq_true rfl, Nat.le_of_ble_eq_true rfl⟩ rfl hl.1 rfl (Nat.le_of_ble_eq_true rfl) dX1_takeMethod_13 ⟨Nat.le_of_ble_eq_true rfl, Nat.le_of_ble_eq_true rfl⟩) hP hD hK hS hA (fun z36 u37 H locs w38 hP hD hK hS => ?_)
    obtain ⟨V41, L42⟩ := u37
    obtain ⟨hMV41, ajV41, axL42, rgz36, t39, t40⟩ := w38
    have axL42 : L = L42 := Eq.symm axL42
    subst axL42
    have hP : va_P D vwCl (xw ad kk V41 L Z) H := hP
    have hD : va_D A (xw ad kk V41 L Z) := hD
    have hMV41 : rgd bX V41 := hMV41
    have ajV41 : agr [(1, 3)] [] V V41 := ajV41
    have agV41 : agr [(1, 3), (1, 6), (6, 8), (6, 9), (6, 10)] [43, 44] V V41 := agV.tr ajV41 (by decide) (by decide)
    have rgz36 : 0 ≤ z36.toInt ∧ z36.toInt ≤ 0 := rgz36
    have t39 : 1 ≤ (V41 1 3).toInt := t39
    have t40 : (V41 1 3).toInt = (Int32.toInt 1) + 16 * (V 6 10).toInt := t40
    have r43 : 0 ≤ ((V 6 10)).toInt ∧ ((V 6 10)).toInt ≤ 4000 := hMV 6 10
    have rw44 : ROWL b L L := (fun k hk => rfl)
    exact W.zret (v := z36) hx hb hr (nb_ok (by omega)) (fun t ht hW => ⟨⟨z36, (V41, L), rfl, ⟨hMV41, agV41, alL, (show 0 ≤ z36.toInt ∧ z36.toInt ≤ 1 from by (first | exact om_641b3f05f166 rgz36.1 rgz36.2 | omega)), (Or.inr ⟨(by omega), fun kk => (mth_1 (fun h9 => f33 (kd34.symm.trans h9)) kk).trans (fl_eq (RelC.st rel) (show (V41 1 3).toInt = 1 + 16 * (V 6 10).toInt from by (first | exact om_f884d2586d25 r35 t40 | omega)))⟩), rw44⟩, by rw [ht]; exact hP, va_K.moved hW.alike hK, hD⟩, hS.F ht⟩) hS.2.2 dX1_takeMethod_16
abbrev r_x_takeMethodO3 : Room := { frames := 2, cells := 0, slots := 0, locals := 44 }
abbrev q_x_takeMethodO3 (D : va_G) (ks : KS) (ad : Nat → Nat) (kk : Nat → ClassId) (V : Vf) (L : Lf) (Z : XZ) (b : Nat) (gT : Tk) (gs : St) (go : Nat) (A : Nat → Prop) : Array Value → State → Outcome → State → Prop := va_Qi (fun (r : Int32) (u : Vf × Lf) => rgd bX u.1 ∧ agr [(1, 3), (1, 6), (6, 8), (6, 9), (6, 10)] [43, 44] V u.1 ∧ agL [6, 44] L u.2 ∧ (0 ≤ r.toInt ∧ r.toInt ≤ 1) ∧ (KcS (mthN gT gs) r.toInt (u.1 1 3).toInt (fun x9 => RelC u.1 u.2 b gT x9.2 ∧ (u.1 1 6).toInt = ((x9.1 : Nat) : Int) ∧ x9.1 < 20 ∧ keepS gs 1 x9.2)) ∧ (ROWL b L u.2)) (fun u t => gq D A (xw ad kk u.1 u.2 Z) (xty kk Z) t) A
set_option maxHeartbeats 4000000 in
set_option maxRecDepth 100000 in
theorem x_takeMethodO3 (l : Launch) (D : va_G) (ks : KS) (sz : Nat) (ad : Nat → Nat) (kk : Nat → ClassId) (V : Vf) (L : Lf) (Z : XZ) (b : Nat) (gT : Tk) (gs : St) (go : Nat) (hMV : rgd bX V) (hb2 : b < 2) (rbk : (V 1 1).toInt = (b : Int)) (own : (V 1 2).toInt = (go : Int)) (hgo : go < 48) (hgl : 24 * b ≤ go) (hgh : go < 24 * b + 24) (rel : RelC V L b gT gs)  : Met l yX1_takeMethod (Cond.code yX1_takeMethod cX1_takeMethod 3 (some .boolean) :: GW) r_x_takeMethodO3 (va_Pc [.ref (ad 1), .ref (ad (72 + go))] (gp D ks (xw ad kk V L Z) (xty kk Z) sz)) (q_x_takeMethodO3 D ks ad kk V L Z  b gT gs go (va_A (xw ad kk V L Z) sz)) 0 0 (va_A (xw ad kk V L Z) sz) := by
  refine g_met (q_x_takeMethodO3 D ks ad kk V L Z  b gT gs go) (by decide) (Nat.le_of_ble_eq_true rfl) ?_
  intro p e s m below meth c A ls H locs hx hb hr hml hown hg hlocks hin hnw hgk hP hK hD hS hA hl
  have hown : s.vm.findClass RX1 = some m.cls := hown
  have hl : lv_has ls 3 [(0, .ref (ad 1)), (1, .ref (ad (72 + go)))] := hl
  have hP : va_P D vwCl (xw ad kk V L Z) H := hP
  have hD : va_D A (xw ad kk V L Z) := hD
  have hK : va_K D vwCl (xty kk Z) s := hK
  have agV : agr [(1, 3), (1, 6), (6, 8), (6, 9), (6, 10)] [43, 44] V V := agr.rf
  have alL : agL [6, 44] L L := agL.rf
  have r1 : (-1) ≤ ((V 1 1)).toInt ∧ ((V 1 1)).toInt ≤ 1 := hMV 1 1
  have r2 : (-1) ≤ ((V 1 2)).toInt ∧ ((V 1 2)).toInt ≤ 47 := hMV 1 2
  have otd : ∀ f : Nat, f < 20 → ((V 61 (20 * go + f)).toInt ≠ -1 ↔ f ∈ gs.2.2.2) := by have z := rel.2.2.2.2 (by omega); have e : Int32.toNatClampNeg (V 1 2) = go := (by have q9 := i_clamp (x := V 1 2) rfl (by (first | exact om_011bccdb17d5 own hgl | omega)); omega); rw [e] at z; exact z.2.2.2.2
  refine lv_aload_n hx hb dX1_takeMethod_0 rfl (lv_at hl 0 rfl) ?_
  refine va_get (D := D) (ci := 1) (v := .ref (ad 6)) (fs := (xfReader ad V L Z)) (C := RX1) (T := TX1) (N := 9) hx hb hg inX1 hown hK hP 1 xgReader rfl 0 (by decide) (hg _ w304) (fun _ h9 => h9) rfl dX1_takeMethod_1 ?_
  refine va_getN (D := D) (ci := 9) (v := .int (V 6 9)) (fs := (xfTape ad V L Z)) (C := RX9) (T := TX9) (N := 12) hx hb hg inX9 hown hK hP 6 xgTape rfl 9 (by decide) (hnw.use 262 n262 rfl) (fun _ h9 => h9) rfl dX1_takeMethod_4 ?_
  refine lv_iconst (v := 3) hx hb dX1_takeMethod_7 (by decide) ?_
  refine lv_icmp_eq (tgt := 17) hx hb dX1_takeMethod_8 (by decide) (fun c3 => ?_) (fun c3 => ?_)
  · skip
    have f4 : ((V 6 9)).toInt = 3 := b_eq rfl (by decide) c3
    have kd5 : gT.1 (gs.1 0) = ((V 6 9)).toInt := RelC.kd rel
    refine lv_aload_n hx hb dX1_takeMethod_17 rfl (lv_at hl 0 rfl) ?_
    refine va_get (D := D) (ci := 1) (v := rfN ad 38 (V 1 1)) (fs := (xfReader ad V L Z)) (C := RX1) (T := TX1) (N := 9) hx hb hg inX1 hown hK hP 1 xgReader rfl 1 (by decide) (hg _ w305) (fun _ h9 => h9) rfl dX1_takeMethod_18 ?_
    refine g_topv (v := .ref (ad (38 + b))) (rfN_r (by omega)) ?_
    refine va_getN (D := D) (ci := 0) (v := .ref (ad (40 + (5 * b + 3)))) (fs := (xfBook ad V b)) (C := RX0) (T := TX0) (N := 13) hx hb hg inX0 hown hK hP (38 + b) (xgBook hb2) rfl 3 (by decide) (hnw.use 605 n605 rfl) (fun _ h9 => h9) rfl dX1_takeMethod_21 ?_
    refine lv_aload_n hx hb dX1_takeMethod_24 rfl (lv_at hl 0 rfl) ?_
    refine va_get (D := D) (ci := 1) (v := .ref (ad 6)) (fs := (xfReader ad V L Z)) (C := RX1) (T := TX1) (N := 9) hx hb hg inX1 hown hK hP 1 xgReader rfl 0 (by decide) (hg _ w304) (fun _ h9 => h9) rfl dX1_takeMethod_25 ?_
    refine va_getN (D := D) (ci := 9) (v := .long (L 6 11)) (fs := (xfTape ad V L Z)) (C := RX9) (T := TX9) (N := 12) hx hb hg inX9 hown hK hP 6 xgTape rfl 11 (by decide) (hnw.use 269 n269 rfl) (fun _ h9 => h9) rfl dX1_takeMethod_28 ?_
    have il6 : (5 * b + 3) < 10 := by (first | exact om_a4f98a710256 hb2 | omega)
    refine gA_int (gA_runV (As := [.long (L 6 11)]) (rest := []) (ci := 6) (q0 := (40 + (5 * b + 3))) hx hb hml hown hg hP hD hK hS hA hnw hgk (x_find2 l D ks H.size ad kk V L Z (L 6 11) ((5 * b + 3)) hMV (show (5 * b + 3) < 10 from by (first | exact om_a4f98a710256 hb2 | omega))) w892 w881 w882 w168 w883 rfl (xgNames il6) hdV_yX6_find ⟨Nat.le_of_ble_eq_true rfl, Nat.le_of_ble_eq_true rfl⟩ rfl hl.1 rfl (Nat.le_of_ble_eq_true rfl) dX1_takeMethod_31 ⟨Nat.le_of_ble_eq_true rfl, Nat.le_of_ble_eq_true rfl⟩) hP hD hK hS hA (fun z7 u8 H locs w9 hP hD hK hS => ?_)
    obtain ⟨rgz7, t10, t11⟩ := w9
    have rgz7 : (-1) ≤ z7.toInt ∧ z7.toInt ≤ 23 := rgz7
    have t10 : z7.toInt < (V 43 (5 * b + 3)).toInt := t10
    have t11 : NF (fun i => L 44 (24 * (5 * b + 3) + i)) (V 43 (5 * b + 3)).toInt (L 6 11) z7.toInt := t11
    have r12 : 0 ≤ ((V 43 (5 * b + 3))).toInt ∧ ((V 43 (5 * b + 3))).toInt ≤ ((xcap (5 * b + 3) : Nat) : Int) := hMV 43 (5 * b + 3)
    have r13 : xcap (5 * b + 3) = 20 := xcap_3
    refine lv_istore_n (lv' := [(2, .int z7), (0, .ref (ad 1)), (1, .ref (ad (72 + go)))]) hx hb dX1_takeMethod_34 rfl hl (by decide) rfl (fun ls hl => ?_)
    refine lv_iload_n hx hb dX1_takeMethod_35 rfl (lv_at hl 0 rfl) ?_
    refine lv_iconst (v := (-1)) hx hb dX1_takeMethod_36 (by decide) ?_
    refine lv_icmp_eq (tgt := 60) hx hb dX1_takeMethod_37 (by decide) (fun c14 => ?_) (fun c14 => ?_)
    · skip
      have f15 : z7.toInt = (-1) := b_eq rfl (by decide) c14
      refine lv_aload_n hx hb dX1_takeMethod_60 rfl (lv_at hl 1 rfl) ?_
      refine lv_aload_n hx hb dX1_takeMethod_61 rfl (lv_at hl 1 rfl) ?_
      refine va_get (D := D) (ci := 1) (v := rfN ad 38 (V 1 1)) (fs := (xfReader ad V L Z)) (C := RX1) (T := TX1) (N := 9) hx hb hg inX1 hown hK hP 1 xgReader rfl 1 (by decide) (hg _ w305) (fun _ h9 => h9) rfl dX1_takeMethod_62 ?_
      refine g_topv (v := .ref (ad (38 + b))) (rfN_r (by omega)) ?_
      refine va_getN (D := D) (ci := 0) (v := .ref (ad (40 + (5 * b + 3)))) (fs := (xfBook ad V b)) (C := RX0) (T := TX0) (N := 13) hx hb hg inX0 hown hK hP (38 + b) (xgBook hb2) rfl 3 (by decide) (hnw.use 605 n605 rfl) (fun _ h9 => h9) rfl dX1_takeMethod_65 ?_
      refine lv_iload_n hx hb dX1_takeMethod_68 rfl (lv_at hl 0 rfl) ?_
      refine gA_int (gA_runV (As := [.ref (ad (40 + (5 * b + 3))), .int z7]) (rest := []) (ci := 1) (q0 := 1) hx hb hml hown hg hP hD hK hS hA hnw hgk (x_takeNumbered3 l D ks H.size ad kk V L Z z7 (b) (gT) (gs) ((5 * b + 3)) (3) hMV (by (first | exact om_dd34aae1cbce rgz7.1 f15 | omega)) (show b < 2 from by (first | exact om_f940a4667dd6 hb2 | omega)) (show (V 1 1).toInt = (b : Int) from by (first | exact om_08e0c9701055 rbk | omega)) rel (show (5 * b + 3) < 10 from by (first | exact om_a4f98a710256 hb2 | omega)) (show (5 * b + 3) = 5 * b + 3 from by (first | exact om_dfbd6d18b5e3 | omega)) (show 3 ≤ 3 from by omega) (show 3 < 5 from by omega) (show xcap (5 * b + 3) = 20 from by (first | exact om_08a271bb3383 r13 | omega)) (show z7.toInt < (V 43 (5 * b + 3)).toInt from by (first | exact om_0520d8737a12 r12.1 f15 | omega)) (show (V 6 9).toInt = 3 from by (first | exact om_395e3da5ee0d f4 | omega)) t11) w927 w929 w16 w162 w930 rfl xgReader hdV_yX1_takeNumbered ⟨Nat.le_of_ble_eq_true rfl, Nat.le_of_ble_eq_true rfl⟩ rfl hl.1 rfl (Nat.le_of_ble_eq_true rfl) dX1_takeMethod_69 ⟨Nat.le_of_ble_eq_true rfl, Nat.le_of_ble_eq_true rfl⟩) hP hD hK hS hA (fun z16 u17 H locs w18 hP hD hK hS => ?_)
      obtain ⟨V21, L22⟩ := u17
      obtain ⟨hMV21, ajV21, axL22, rgz16, t19, t20⟩ := w18
      have alL22 : agL [6, 44] L L22 := agL.tr alL axL22 (by decide)
      have hP : va_P D vwCl (xw ad kk V21 L22 Z) H := hP
      have hD : va_D A (xw ad kk V21 L22 Z) := hD
      have hMV21 : rgd bX V21 := hMV21
      have ajV21 : agr [(1, 3), (1, 6), (6, 8), (6, 9), (6, 10)] [43, 44] V V21 := ajV21
      have agV21 : agr [(1, 3), (1, 6), (6, 8), (6, 9), (6, 10)] [43, 44] V V21 := agV.tr ajV21 (by decide) (by decide)
      have rgz16 : 0 ≤ z16.toInt ∧ z16.toInt ≤ 1 := rgz16
      have t19 : KcS (nbrW gT gs 3) z16.toInt (V21 1 3).toInt (fun x9 => RelC V21 L22 b gT x9.2 ∧ (V21 1 6).toInt = ((x9.1 : Nat) : Int) ∧ x9.1 < 20 ∧ keepS gs 1 x9.2) := t19
      have t20 : ROWL b L L22 := t20
      have rw23 : ROWL b L L22 := (fun k hk => ((t20 k hk).trans rfl))
      exact W.zret (v := z16) hx hb hr (nb_ok (by omega)) (fun t ht hW => ⟨⟨z16, (V21, L22), rfl, ⟨hMV21, agV21, alL22, (show 0 ≤ z16.toInt ∧ z16.toInt ≤ 1 from by (first | exact om_eb7af9d60398 rgz16.1 rgz16.2 | omega)), (Kc_mthN (kd5.trans f4) (mTold_n (by rw [(RelC.vl rel)]; exact fnd_n rel.2.2.1 t11 (by decide) (by omega))) t19), rw23⟩, by rw [ht]; exact hP, va_K.moved hW.alike hK, hD⟩, hS.F ht⟩) hS.2.2 dX1_takeMethod_72
    · skip
      have f24 : z7.toInt ≠ (-1) := b_neq rfl (by decide) c14
      refine lv_aload_n hx hb dX1_takeMethod_40 rfl (lv_at hl 2 rfl) ?_
      refine lv_ifnull hx hb dX1_takeMethod_41 ?_
      refine lv_aload_n hx hb dX1_takeMethod_44 rfl (lv_at hl 2 rfl) ?_
      refine va_getN (D := D) (ci := 3) (v := .ref (ad (264 + go))) (fs := (xfComp ad V go)) (C := RX3) (T := TX3) (N := 13) hx hb hg inX3 hown hK hP (72 + go) (xgComp hgo) rfl 3 (by decide) (hnw.use 508 n508 rfl) (fun _ h9 => h9) rfl dX1_takeMethod_45 ?_
      refine lv_iload_n hx hb dX1_takeMethod_48 rfl (lv_at hl 0 rfl) ?_
      refine va_iald (D := D) (i := z7) hx hb hK hP (264 + go) (257 + go) (xgmethodStarts hgo) (xtmethodStarts hgo) (i_in (a := z7.toInt) rfl (by (first | exact om_2e6b8401580f rgz7.1 t10 r12.2 r13 f24 | omega))) dX1_takeMethod_49 ?_
      have kc25 := i_clamp (x := z7) rfl (by (first | exact om_e3b1d6ac9ce8 rgz7.1 f24 | omega))
      refine g_top (v := V 61 (20 * go + (Int32.toNatClampNeg z7))) (if_pos (by omega)) ?_
      have r26 : (-1) ≤ ((V 61 (20 * go + (Int32.toNatClampNeg z7)))).toInt ∧ ((V 61 (20 * go + (Int32.toNatClampNeg z7)))).toInt ≤ 8200 := hMV 61 (20 * go + (Int32.toNatClampNeg z7))
      have ms27 : 20 * go + z7.toInt.toNat = 20 * go + Int32.toNatClampNeg z7 := rfl
      refine lv_iconst (v := (-1)) hx hb dX1_takeMethod_50 (by decide) ?_
      refine lv_icmp_eq (tgt := 60) hx hb dX1_takeMethod_51 (by decide) (fun c28 => ?_) (fun c28 => ?_)
      · skip
        have f29 : ((V 61 (20 * go + (Int32.toNatClampNeg z7)))).toInt = (-1) := b_eq rfl (by decide) c28
        refine lv_aload_n hx hb dX1_takeMethod_60 rfl (lv_at hl 1 rfl) ?_
        refine lv_aload_n hx hb dX1_takeMethod_61 rfl (lv_at hl 1 rfl) ?_
        refine va_get (D := D) (ci := 1) (v := rfN ad 38 (V 1 1)) (fs := (xfReader ad V L Z)) (C := RX1) (T := TX1) (N := 9) hx hb hg inX1 hown hK hP 1 xgReader rfl 1 (by decide) (hg _ w305) (fun _ h9 => h9) rfl dX1_takeMethod_62 ?_
        refine g_topv (v := .ref (ad (38 + b))) (rfN_r (by omega)) ?_
        refine va_getN (D := D) (ci := 0) (v := .ref (ad (40 + (5 * b + 3)))) (fs := (xfBook ad V b)) (C := RX0) (T := TX0) (N := 13) hx hb hg inX0 hown hK hP (38 + b) (xgBook hb2) rfl 3 (by decide) (hnw.use 605 n605 rfl) (fun _ h9 => h9) rfl dX1_takeMethod_65 ?_
        refine lv_iload_n hx hb dX1_takeMethod_68 rfl (lv_at hl 0 rfl) ?_
        refine gA_int (gA_runV (As := [.ref (ad (40 + (5 * b + 3))), .int z7]) (rest := []) (ci := 1) (q0 := 1) hx hb hml hown hg hP hD hK hS hA hnw hgk (x_takeNumbered3 l D ks H.size ad kk V L Z z7 (b) (gT) (gs) ((5 * b + 3)) (3) hMV (by (first | exact om_67af15a4007a rgz7.1 t10 r12.2 r13 f24 | omega)) (show b < 2 from by (first | exact om_f940a4667dd6 hb2 | omega)) (show (V 1 1).toInt = (b : Int) from by (first | exact om_08e0c9701055 rbk | omega)) rel (show (5 * b + 3) < 10 from by (first | exact om_a4f98a710256 hb2 | omega)) (show (5 * b + 3) = 5 * b + 3 from by (first | exact om_dfbd6d18b5e3 | omega)) (show 3 ≤ 3 from by omega) (show 3 < 5 from by omega) (show xcap (5 * b + 3) = 20 from by (first | exact om_08a271bb3383 r13 | omega)) (show z7.toInt < (V 43 (5 * b + 3)).toInt from by (first | exact om_0e9116797efb t10 | omega)) (show (V 6 9).toInt = 3 from by (first | exact om_395e3da5ee0d f4 | omega)) t11) w927 w929 w16 w162 w930 rfl xgReader hdV_yX1_takeNumbered ⟨Nat.le_of_ble_eq_true rfl, Nat.le_of_ble_eq_true rfl⟩ rfl hl.1 rfl (Nat.le_of_ble_eq_true rfl) dX1_takeMethod_69 ⟨Nat.le_of_ble_eq_true rfl, Nat.le_of_ble_eq_true rfl⟩) hP hD hK hS hA (fun z30 u31 H locs w32 hP hD hK hS => ?_)
        obtain ⟨V35, L36⟩ := u31
        obtain ⟨hMV35, ajV35, axL36, rgz30, t33, t34⟩ := w32
        have alL36 : agL [6, 44] L L36 := agL.tr alL axL36 (by decide)
        have hP : va_P D vwCl (xw ad kk V35 L36 Z) H := hP
        have hD : va_D A (xw ad kk V35 L36 Z) := hD
        have hMV35 : rgd bX V35 := hMV35
        have ajV35 : agr [(1, 3), (1, 6), (6, 8), (6, 9), (6, 10)] [43, 44] V V35 := ajV35
        have agV35 : agr [(1, 3), (1, 6), (6, 8), (6, 9), (6, 10)] [43, 44] V V35 := agV.tr ajV35 (by decide) (by decide)
        have rgz30 : 0 ≤ z30.toInt ∧ z30.toInt ≤ 1 := rgz30
        have t33 : KcS (nbrW gT gs 3) z30.toInt (V35 1 3).toInt (fun x9 => RelC V35 L36 b gT x9.2 ∧ (V35 1 6).toInt = ((x9.1 : Nat) : Int) ∧ x9.1 < 20 ∧ keepS gs 1 x9.2) := t33
        have t34 : ROWL b L L36 := t34
        have rw37 : ROWL b L L36 := (fun k hk => ((t34 k hk).trans rfl))
        exact W.zret (v := z30) hx hb hr (nb_ok (by omega)) (fun t ht hW => ⟨⟨z30, (V35, L36), rfl, ⟨hMV35, agV35, alL36, (show 0 ≤ z30.toInt ∧ z30.toInt ≤ 1 from by (first | exact om_eb7af9d60398 rgz30.1 rgz30.2 | omega)), (Kc_mthN (kd5.trans f4) ((mTold_s (by rw [(RelC.vl rel)]; exact fnd_y rel.2.2.1 t11 (by decide) (by omega))).trans (Bool.eq_false_iff.mpr (fun q => absurd (List.contains_iff_mem.mp q) (fun q2 => absurd ((otd z7.toInt.toNat (by omega)).mpr q2) (by rw [show V 61 (20 * go + z7.toInt.toNat) = V 61 (20 * go + Int32.toNatClampNeg z7) from rfl]; omega))))) t33), rw37⟩, by rw [ht]; exact hP, va_K.moved hW.alike hK, hD⟩, hS.F ht⟩) hS.2.2 dX1_takeMethod_72
      · skip
        have f38 : ((V 61 (20 * go + (Int32.toNatClampNeg z7)))).toInt ≠ (-1) := b_neq rfl (by decide) c28
        refine lv_aload_n hx hb dX1_takeMethod_54 rfl (lv_at hl 1 rfl) ?_
        refine lv_iconst (v := 3) hx hb dX1_takeMethod_55 (by decide) ?_
        have r39 : Int32.toInt 3 = 3 := by decide
        refine gA_int (gA_runV (As := [.int 3]) (rest := []) (ci := 1) (q0 := 1) hx hb hml hown hg hP hD hK hS hA hnw hgk (x_wrong2 l D ks H.size ad kk V L Z 3 hMV (by decide)) w867 w869 w6 w162 w870 rfl xgReader hdV_yX1_wrong ⟨Nat.le_of_ble_eq_true rfl, Nat.le_of_ble_eq_true rfl⟩ rfl hl.1 rfl (Nat.le_of_ble_eq_true rfl) dX1_takeMethod_56 ⟨Nat.le_of_ble_eq_true rfl, Nat.le_of_ble_eq_true rfl⟩) hP hD hK hS hA (fun z40 u41 H locs w42 hP hD hK hS => ?_)
        obtain ⟨V45, L46⟩ := u41
        obtain ⟨hMV45, ajV45, axL46, rgz40, t43, t44⟩ := w42
        have axL46 : L = L46 := Eq.symm axL46
        subst axL46
        have hP : va_P D vwCl (xw ad kk V45 L Z) H := hP
        have hD : va_D A (xw ad kk V45 L Z) := hD
        have hMV45 : rgd bX V45 := hMV45
        have ajV45 : agr [(1, 3)] [] V V45 := ajV45
        have agV45 : agr [(1, 3), (1, 6), (6, 8), (6, 9), (6, 10)] [43, 44] V V45 := agV.tr ajV45 (by decide) (by decide)
        have rgz40 : 0 ≤ z40.toInt ∧ z40.toInt ≤ 0 := rgz40
        have t43 : 1 ≤ (V45 1 3).toInt := t43
        have t44 : (V45 1 3).toInt = (Int32.toInt 3) + 16 * (V 6 10).toInt := t44
        have r47 : 0 ≤ ((V 6 10)).toInt ∧ ((V 6 10)).toInt ≤ 4000 := hMV 6 10
        have rw48 : ROWL b L L := (fun k hk => rfl)
        exact W.zret (v := z40) hx hb hr (nb_ok (by omega)) (fun t ht hW => ⟨⟨z40, (V45, L), rfl, ⟨hMV45, agV45, alL, (show 0 ≤ z40.toInt ∧ z40.toInt ≤ 1 from by (first | exact om_641b3f05f166 rgz40.1 rgz40.2 | omega)), (Or.inr ⟨(by omega), fun kk => (mthN_3 (kd5.trans f4) ((mTold_s (by rw [(RelC.vl rel)]; exact fnd_y rel.2.2.1 t11 (by decide) (by omega))).trans (List.contains_iff_mem.mpr ((otd z7.toInt.toNat (by omega)).mp (by rw [show V 61 (20 * go + z7.toInt.toNat) = V 61 (20 * go + Int32.toNatClampNeg z7) from rfl]; omega)))) kk).trans (fl_eq (RelC.st rel) (show (V45 1 3).toInt = 3 + 16 * (V 6 10).toInt from by (first | exact om_b430a26e4567 r39 t44 | omega)))⟩), rw48⟩, by rw [ht]; exact hP, va_K.moved hW.alike hK, hD⟩, hS.F ht⟩) hS.2.2 dX1_takeMethod_59
  · skip
    have f49 : ((V 6 9)).toInt ≠ 3 := b_neq rfl (by decide) c3
    refine lv_aload_n hx hb dX1_takeMethod_11 rfl (lv_at hl 0 rfl) ?_
    refine lv_iconst (v := 1) hx hb dX1_takeMethod_12 (by decide) ?_
    have kd50 : gT.1 (gs.1 0) = ((V 6 9)).toInt := RelC.kd rel
    have r51 : Int32.toInt 1 = 1 := by decide
    refine gA_int (gA_runV (As := [.int 1]) (rest := []) (ci := 1) (q0 := 1) hx hb hml hown hg hP hD hK hS hA hnw hgk (x_wrong2 l D ks H.size ad kk V L Z 1 hMV (by decide)) w867 w869 w6 w162 w870 rfl xgReader hdV_yX1_wrong ⟨Nat.le_of_ble_eq_true rfl, Nat.le_of_ble_eq_true rfl⟩ rfl hl.1 rfl (Nat.le_of_ble_eq_true rfl) dX1_takeMethod_13 ⟨Nat.le_of_ble_eq_true rfl, Nat.le_of_ble_eq_true rfl⟩) hP hD hK hS hA (fun z52 u53 H locs w54 hP hD hK hS => ?_)
    obtain ⟨V57, L58⟩ := u53
    obtain ⟨hMV57, ajV57, axL58, rgz52, t55, t56⟩ := w54
    have axL58 : L = L58 := Eq.symm axL58
    subst axL58
    have hP : va_P D vwCl (xw ad kk V57 L Z) H := hP
    have hD : va_D A (xw ad kk V57 L Z) := hD
    have hMV57 : rgd bX V57 := hMV57
    have ajV57 : agr [(1, 3)] [] V V57 := ajV57
    have agV57 : agr [(1, 3), (1, 6), (6, 8), (6, 9), (6, 10)] [43, 44] V V57 := agV.tr ajV57 (by decide) (by decide)
    have rgz52 : 0 ≤ z52.toInt ∧ z52.toInt ≤ 0 := rgz52
    have t55 : 1 ≤ (V57 1 3).toInt := t55
    have t56 : (V57 1 3).toInt = (Int32.toInt 1) + 16 * (V 6 10).toInt := t56
    have r59 : 0 ≤ ((V 6 10)).toInt ∧ ((V 6 10)).toInt ≤ 4000 := hMV 6 10
    have rw60 : ROWL b L L := (fun k hk => rfl)
    exact W.zret (v := z52) hx hb hr (nb_ok (by omega)) (fun t ht hW => ⟨⟨z52, (V57, L), rfl, ⟨hMV57, agV57, alL, (show 0 ≤ z52.toInt ∧ z52.toInt ≤ 1 from by (first | exact om_641b3f05f166 rgz52.1 rgz52.2 | omega)), (Or.inr ⟨(by omega), fun kk => ((mthN_y (fun q => (fun h9 => f49 (kd50.symm.trans h9)) q.1) kk).trans (mth_1 (fun h9 => f49 (kd50.symm.trans h9)) kk)).trans (fl_eq (RelC.st rel) (show (V57 1 3).toInt = 1 + 16 * (V 6 10).toInt from by (first | exact om_f884d2586d25 r51 t56 | omega)))⟩), rw60⟩, by rw [ht]; exact hP, va_K.moved hW.alike hK, hD⟩, hS.F ht⟩) hS.2.2 dX1_takeMethod_16
abbrev r_x_takeCalled3 : Room := { frames := 2, cells := 0, slots := 0, locals := 44 }
abbrev q_x_takeCalled3 (D : va_G) (ks : KS) (ad : Nat → Nat) (kk : Nat → ClassId) (V : Vf) (L : Lf) (Z : XZ) (b : Nat) (gT : Tk) (gs : St) (A : Nat → Prop) : Array Value → State → Outcome → State → Prop := va_Qi (fun (r : Int32) (u : Vf × Lf) => rgd bX u.1 ∧ agr [(1, 3), (1, 6), (6, 8), (6, 9), (6, 10)] [43, 44] V u.1 ∧ agL [6, 44] L u.2 ∧ (0 ≤ r.toInt ∧ r.toInt ≤ 1) ∧ (KcS (mthW gT (nx gs 1) 4) r.toInt (u.1 1 3).toInt (fun x9 => RelC u.1 u.2 b gT x9.2 ∧ (u.1 1 6).toInt = ((x9.1 : Nat) : Int) ∧ x9.1 < 20 ∧ keepS gs 2 x9.2)) ∧ (ROWL b L u.2)) (fun u t => gq D A (xw ad kk u.1 u.2 Z) (xty kk Z) t) A
set_option maxHeartbeats 4000000 in
set_option maxRecDepth 100000 in
theorem x_takeCalled3 (l : Launch) (D : va_G) (ks : KS) (sz : Nat) (ad : Nat → Nat) (kk : Nat → ClassId) (V : Vf) (L : Lf) (Z : XZ) (b : Nat) (gT : Tk) (gs : St) (hMV : rgd bX V) (hb2 : b < 2) (rbk : (V 1 1).toInt = (b : Int)) (rel : RelC V L b gT gs) (kd9 : (V 6 9).toInt = 133)  : Met l yX1_takeCalled (Cond.code yX1_takeCalled cX1_takeCalled 1 (some .boolean) :: GW) r_x_takeCalled3 (va_Pc [.ref (ad 1)] (gp D ks (xw ad kk V L Z) (xty kk Z) sz)) (q_x_takeCalled3 D ks ad kk V L Z  b gT gs (va_A (xw ad kk V L Z) sz)) 0 0 (va_A (xw ad kk V L Z) sz) := by
  refine g_met (q_x_takeCalled3 D ks ad kk V L Z  b gT gs) (by decide) (Nat.le_of_ble_eq_true rfl) ?_
  intro p e s m below meth c A ls H locs hx hb hr hml hown hg hlocks hin hnw hgk hP hK hD hS hA hl
  have hown : s.vm.findClass RX1 = some m.cls := hown
  have hl : lv_has ls 1 [(0, .ref (ad 1))] := hl
  have hP : va_P D vwCl (xw ad kk V L Z) H := hP
  have hD : va_D A (xw ad kk V L Z) := hD
  have hK : va_K D vwCl (xty kk Z) s := hK
  have agV : agr [(1, 3), (1, 6), (6, 8), (6, 9), (6, 10)] [43, 44] V V := agr.rf
  have alL : agL [6, 44] L L := agL.rf
  have r1 : (-1) ≤ ((V 1 1)).toInt ∧ ((V 1 1)).toInt ≤ 1 := hMV 1 1
  refine lv_aload_n hx hb dX1_takeCalled_0 rfl (lv_at hl 0 rfl) ?_
  refine va_get (D := D) (ci := 1) (v := .ref (ad 6)) (fs := (xfReader ad V L Z)) (C := RX1) (T := TX1) (N := 9) hx hb hg inX1 hown hK hP 1 xgReader rfl 0 (by decide) (hg _ w304) (fun _ h9 => h9) rfl dX1_takeCalled_1 ?_
  have l82 := RelC.l8 rel
  have r3 : 0 ≤ ((V 6 8)).toInt ∧ ((V 6 8)).toInt ≤ 4000 := hMV 6 8
  have r4 : 0 ≤ ((V 6 7)).toInt ∧ ((V 6 7)).toInt ≤ 4000 := hMV 6 7
  have lk5 := RelC.lk rel (show (V 6 9).toInt ≠ 0 from by (first | exact om_68a684ae2781 kd9 | omega))
  refine gA_void (gA_runV (As := []) (rest := []) (ci := 9) (q0 := 6) hx hb hml hown hg hP hD hK hS hA hnw hgk (x_next2 l D ks H.size ad kk V L Z  hMV (show (V 6 8).toInt ≤ (V 6 7).toInt from by (first | exact om_f4906d00fa52 l82 | omega))) w871 w852 w853 w157 w854 rfl xgTape hdV_yX9_next ⟨Nat.le_of_ble_eq_true rfl, Nat.le_of_ble_eq_true rfl⟩ rfl hl.1 rfl (Nat.le_of_ble_eq_true rfl) dX1_takeCalled_4 ⟨Nat.le_of_ble_eq_true rfl, Nat.le_of_ble_eq_true rfl⟩) hP hD hK hS hA (fun u7 H locs w8 hP hD hK hS => ?_)
  obtain ⟨V11, L12⟩ := u7
  obtain ⟨hMV11, ajV11, axL12, t9, t10⟩ := w8
  have alL12 : agL [6, 44] L L12 := agL.tr alL axL12 (by decide)
  have hP : va_P D vwCl (xw ad kk V11 L12 Z) H := hP
  have hD : va_D A (xw ad kk V11 L12 Z) := hD
  have hMV11 : rgd bX V11 := hMV11
  have ajV11 : agr [(6, 8), (6, 9), (6, 10)] [] V V11 := ajV11
  have agV11 : agr [(1, 3), (1, 6), (6, 8), (6, 9), (6, 10)] [43, 44] V V11 := agV.tr ajV11 (by decide) (by decide)
  have t9 : (V11 6 8).toInt ≤ (V11 6 7).toInt := t9
  have t10 : CUR V11 L12 (Int32.toNatClampNeg (V 6 8)) := t10
  have r13 : 0 ≤ ((V11 6 8)).toInt ∧ ((V11 6 8)).toInt ≤ 4000 := hMV11 6 8
  have pq14 : (V11 6 7).toInt = ((V 6 7)).toInt := congrArg Int32.toInt (ajV11 6 7 rfl)
  have rl15 : RelC V11 L12 b gT (nx gs 1) := RelC.nx1 rel ajV11 (by decide) axL12 (by decide) (by rw [← lk5]; exact t10) (ajV11 1 3 rfl)
  refine lv_aload_n hx hb dX1_takeCalled_7 rfl (lv_at hl 0 rfl) ?_
  refine va_get (D := D) (ci := 1) (v := .ref (ad 6)) (fs := (xfReader ad V11 L12 Z)) (C := RX1) (T := TX1) (N := 9) hx hb hg inX1 hown hK hP 1 xgReader rfl 0 (by decide) (hg _ w304) (fun _ h9 => h9) rfl dX1_takeCalled_8 ?_
  refine va_getN (D := D) (ci := 9) (v := .int (V11 6 9)) (fs := (xfTape ad V11 L12 Z)) (C := RX9) (T := TX9) (N := 12) hx hb hg inX9 hown hK hP 6 xgTape rfl 9 (by decide) (hnw.use 262 n262 rfl) (fun _ h9 => h9) rfl dX1_takeCalled_11 ?_
  refine lv_iconst (v := 3) hx hb dX1_takeCalled_14 (by decide) ?_
  refine lv_icmp_eq (tgt := 24) hx hb dX1_takeCalled_15 (by decide) (fun c16 => ?_) (fun c16 => ?_)
  · skip
    have f17 : ((V11 6 9)).toInt = 3 := b_eq rfl (by decide) c16
    have kd18 : gT.1 ((nx gs 1).1 0) = ((V11 6 9)).toInt := RelC.kd rl15
    refine lv_aload_n hx hb dX1_takeCalled_24 rfl (lv_at hl 0 rfl) ?_
    refine lv_aload_n hx hb dX1_takeCalled_25 rfl (lv_at hl 0 rfl) ?_
    refine va_get (D := D) (ci := 1) (v := rfN ad 38 (V11 1 1)) (fs := (xfReader ad V11 L12 Z)) (C := RX1) (T := TX1) (N := 9) hx hb hg inX1 hown hK hP 1 xgReader rfl 1 (by decide) (hg _ w305) (fun _ h9 => h9) rfl dX1_takeCalled_26 ?_
    have pq19 : (V11 1 1).toInt = ((V 1 1)).toInt := congrArg Int32.toInt (ajV11 1 1 rfl)
    refine g_topv (v := .ref (ad (38 + b))) (rfN_r (by omega)) ?_
    refine va_getN (D := D) (ci := 0) (v := .ref (ad (40 + (5 * b + 4)))) (fs := (xfBook ad V11 b)) (C := RX0) (T := TX0) (N := 13) hx hb hg inX0 hown hK hP (38 + b) (xgBook hb2) rfl 4 (by decide) (hnw.use 607 n607 rfl) (fun _ h9 => h9) rfl dX1_takeCalled_29 ?_
    refine lv_aload_n hx hb dX1_takeCalled_32 rfl (lv_at hl 0 rfl) ?_
    refine va_get (D := D) (ci := 1) (v := rfN ad 38 (V11 1 1)) (fs := (xfReader ad V11 L12 Z)) (C := RX1) (T := TX1) (N := 9) hx hb hg inX1 hown hK hP 1 xgReader rfl 1 (by decide) (hg _ w305) (fun _ h9 => h9) rfl dX1_takeCalled_33 ?_
    refine g_topv (v := .ref (ad (38 + b))) (rfN_r (by omega)) ?_
    refine va_getN (D := D) (ci := 0) (v := .ref (ad (40 + (5 * b + 4)))) (fs := (xfBook ad V11 b)) (C := RX0) (T := TX0) (N := 13) hx hb hg inX0 hown hK hP (38 + b) (xgBook hb2) rfl 4 (by decide) (hnw.use 607 n607 rfl) (fun _ h9 => h9) rfl dX1_takeCalled_36 ?_
    refine lv_aload_n hx hb dX1_takeCalled_39 rfl (lv_at hl 0 rfl) ?_
    refine va_get (D := D) (ci := 1) (v := .ref (ad 6)) (fs := (xfReader ad V11 L12 Z)) (C := RX1) (T := TX1) (N := 9) hx hb hg inX1 hown hK hP 1 xgReader rfl 0 (by decide) (hg _ w304) (fun _ h9 => h9) rfl dX1_takeCalled_40 ?_
    refine va_getN (D := D) (ci := 9) (v := .long (L12 6 11)) (fs := (xfTape ad V11 L12 Z)) (C := RX9) (T := TX9) (N := 12) hx hb hg inX9 hown hK hP 6 xgTape rfl 11 (by decide) (hnw.use 269 n269 rfl) (fun _ h9 => h9) rfl dX1_takeCalled_43 ?_
    have il20 : (5 * b + 4) < 10 := by (first | exact om_3aaf7229373d hb2 | omega)
    refine gA_int (gA_runV (As := [.long (L12 6 11)]) (rest := [.ref (ad (40 + (5 * b + 4))), .ref (ad 1)]) (ci := 6) (q0 := (40 + (5 * b + 4))) hx hb hml hown hg hP hD hK hS hA hnw hgk (x_find2 l D ks H.size ad kk V11 L12 Z (L12 6 11) ((5 * b + 4)) hMV11 (show (5 * b + 4) < 10 from by (first | exact om_3aaf7229373d hb2 | omega))) w892 w881 w882 w168 w883 rfl (xgNames il20) hdV_yX6_find ⟨Nat.le_of_ble_eq_true rfl, Nat.le_of_ble_eq_true rfl⟩ rfl hl.1 rfl (Nat.le_of_ble_eq_true rfl) dX1_takeCalled_46 ⟨Nat.le_of_ble_eq_true rfl, Nat.le_of_ble_eq_true rfl⟩) hP hD hK hS hA (fun z21 u22 H locs w23 hP hD hK hS => ?_)
    obtain ⟨rgz21, t24, t25⟩ := w23
    have rgz21 : (-1) ≤ z21.toInt ∧ z21.toInt ≤ 23 := rgz21
    have t24 : z21.toInt < (V11 43 (5 * b + 4)).toInt := t24
    have t25 : NF (fun i => L12 44 (24 * (5 * b + 4) + i)) (V11 43 (5 * b + 4)).toInt (L12 6 11) z21.toInt := t25
    have r26 : xcap (5 * b + 4) = 20 := xcap_4
    have pq27 : (V11 43 (5 * b + 4)).toInt = ((V 43 (5 * b + 4))).toInt := congrArg Int32.toInt (ajV11 43 (5 * b + 4) rfl)
    have r28 : 0 ≤ ((V 43 (5 * b + 4))).toInt ∧ ((V 43 (5 * b + 4))).toInt ≤ ((xcap (5 * b + 4) : Nat) : Int) := hMV 43 (5 * b + 4)
    refine gA_int (gA_runV (As := [.ref (ad (40 + (5 * b + 4))), .int z21]) (rest := []) (ci := 1) (q0 := 1) hx hb hml hown hg hP hD hK hS hA hnw hgk (x_takeNumbered3 l D ks H.size ad kk V11 L12 Z z21 (b) (gT) ((nx gs 1)) ((5 * b + 4)) (4) hMV11 (by (first | exact om_743871df72dc rgz21.1 t24 r26 pq27 r28.2 | omega)) (show b < 2 from by (first | exact om_f940a4667dd6 hb2 | omega)) (show (V11 1 1).toInt = (b : Int) from by (first | exact om_adf531c77a0d rbk pq19 | omega)) rl15 (show (5 * b + 4) < 10 from by (first | exact om_3aaf7229373d hb2 | omega)) (show (5 * b + 4) = 5 * b + 4 from by (first | exact om_3c0129424134 | omega)) (show 3 ≤ 4 from by omega) (show 4 < 5 from by omega) (show xcap (5 * b + 4) = 20 from by (first | exact om_08a271bb3383 r26 | omega)) (show z21.toInt < (V11 43 (5 * b + 4)).toInt from by (first | exact om_0e9116797efb t24 | omega)) (show (V11 6 9).toInt = 3 from by (first | exact om_395e3da5ee0d f17 | omega)) t25) w927 w929 w16 w162 w930 rfl xgReader hdV_yX1_takeNumbered ⟨Nat.le_of_ble_eq_true rfl, Nat.le_of_ble_eq_true rfl⟩ rfl hl.1 rfl (Nat.le_of_ble_eq_true rfl) dX1_takeCalled_49 ⟨Nat.le_of_ble_eq_true rfl, Nat.le_of_ble_eq_true rfl⟩) hP hD hK hS hA (fun z29 u30 H locs w31 hP hD hK hS => ?_)
    obtain ⟨V34, L35⟩ := u30
    obtain ⟨hMV34, ajV34, axL35, rgz29, t32, t33⟩ := w31
    have alL35 : agL [6, 44] L L35 := agL.tr alL12 axL35 (by decide)
    have hP : va_P D vwCl (xw ad kk V34 L35 Z) H := hP
    have hD : va_D A (xw ad kk V34 L35 Z) := hD
    have hMV34 : rgd bX V34 := hMV34
    have ajV34 : agr [(1, 3), (1, 6), (6, 8), (6, 9), (6, 10)] [43, 44] V11 V34 := ajV34
    have agV34 : agr [(1, 3), (1, 6), (6, 8), (6, 9), (6, 10)] [43, 44] V V34 := agV11.tr ajV34 (by decide) (by decide)
    have rgz29 : 0 ≤ z29.toInt ∧ z29.toInt ≤ 1 := rgz29
    have t32 : KcS (nbrW gT (nx gs 1) 4) z29.toInt (V34 1 3).toInt (fun x9 => RelC V34 L35 b gT x9.2 ∧ (V34 1 6).toInt = ((x9.1 : Nat) : Int) ∧ x9.1 < 20 ∧ keepS (nx gs 1) 1 x9.2) := t32
    have t33 : ROWL b L12 L35 := t33
    have rw36 : ROWL b L L35 := (fun k hk => ((t33 k hk).trans ((axL12 44 k rfl).trans rfl)))
    exact W.zret (v := z29) hx hb hr (nb_ok (by omega)) (fun t ht hW => ⟨⟨z29, (V34, L35), rfl, ⟨hMV34, agV34, alL35, (show 0 ≤ z29.toInt ∧ z29.toInt ≤ 1 from by (first | exact om_eb7af9d60398 rgz29.1 rgz29.2 | omega)), (Kc_im (Kc_mth (kd18.trans f17) t32) (fun x h => ⟨h.1, h.2.1, h.2.2.1, keepS.tr (keepS.n1 1) h.2.2.2⟩)), rw36⟩, by rw [ht]; exact hP, va_K.moved hW.alike hK, hD⟩, hS.F ht⟩) hS.2.2 dX1_takeCalled_52
  · skip
    have f37 : ((V11 6 9)).toInt ≠ 3 := b_neq rfl (by decide) c16
    refine lv_aload_n hx hb dX1_takeCalled_18 rfl (lv_at hl 0 rfl) ?_
    refine lv_iconst (v := 1) hx hb dX1_takeCalled_19 (by decide) ?_
    have kd38 : gT.1 ((nx gs 1).1 0) = ((V11 6 9)).toInt := RelC.kd rl15
    have r39 : Int32.toInt 1 = 1 := by decide
    refine gA_int (gA_runV (As := [.int 1]) (rest := []) (ci := 1) (q0 := 1) hx hb hml hown hg hP hD hK hS hA hnw hgk (x_wrong2 l D ks H.size ad kk V11 L12 Z 1 hMV11 (by decide)) w867 w869 w6 w162 w870 rfl xgReader hdV_yX1_wrong ⟨Nat.le_of_ble_eq_true rfl, Nat.le_of_ble_eq_true rfl⟩ rfl hl.1 rfl (Nat.le_of_ble_eq_true rfl) dX1_takeCalled_20 ⟨Nat.le_of_ble_eq_true rfl, Nat.le_of_ble_eq_true rfl⟩) hP hD hK hS hA (fun z40 u41 H locs w42 hP hD hK hS => ?_)
    obtain ⟨V45, L46⟩ := u41
    obtain ⟨hMV45, ajV45, axL46, rgz40, t43, t44⟩ := w42
    have axL46 : L12 = L46 := Eq.symm axL46
    subst axL46
    have hP : va_P D vwCl (xw ad kk V45 L12 Z) H := hP
    have hD : va_D A (xw ad kk V45 L12 Z) := hD
    have hMV45 : rgd bX V45 := hMV45
    have ajV45 : agr [(1, 3)] [] V11 V45 := ajV45
    have agV45 : agr [(1, 3), (1, 6), (6, 8), (6, 9), (6, 10)] [43, 44] V V45 := agV11.tr ajV45 (by decide) (by decide)
    have rgz40 : 0 ≤ z40.toInt ∧ z40.toInt ≤ 0 := rgz40
    have t43 : 1 ≤ (V45 1 3).toInt := t43
    have t44 : (V45 1 3).toInt = (Int32.toInt 1) + 16 * (V11 6 10).toInt := t44
    have r47 : 0 ≤ ((V11 6 10)).toInt ∧ ((V11 6 10)).toInt ≤ 4000 := hMV11 6 10
    have rw48 : ROWL b L L12 := (fun k hk => ((axL12 44 k rfl).trans rfl))
    exact W.zret (v := z40) hx hb hr (nb_ok (by omega)) (fun t ht hW => ⟨⟨z40, (V45, L12), rfl, ⟨hMV45, agV45, alL12, (show 0 ≤ z40.toInt ∧ z40.toInt ≤ 1 from by (first | exact om_641b3f05f166 rgz40.1 rgz40.2 | omega)), (Or.inr ⟨(by omega), fun kk => (mth_1 (fun h9 => f37 (kd38.symm.trans h9)) kk).trans (fl_eq (RelC.st rl15) (show (V45 1 3).toInt = 1 + 16 * (V11 6 10).toInt from by (first | exact om_f884d2586d25 r39 t44 | omega)))⟩), rw48⟩, by rw [ht]; exact hP, va_K.moved hW.alike hK, hD⟩, hS.F ht⟩) hS.2.2 dX1_takeCalled_23
end
