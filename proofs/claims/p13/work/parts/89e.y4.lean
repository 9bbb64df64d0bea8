/-! a token, what the reference holds of it -/
theorem sg_all : ∀ i, i < 12 → (sgb i).toInt = 123 ∨ (sgb i).toInt = 125 ∨ (sgb i).toInt = 40 ∨ (sgb i).toInt = 41 ∨ (sgb i).toInt = 44 ∨ (sgb i).toInt = 59 ∨ (sgb i).toInt = 61 ∨ (sgb i).toInt = 60 ∨ (sgb i).toInt = 43 ∨ (sgb i).toInt = 45 ∨ (sgb i).toInt = 42 ∨ (sgb i).toInt = 46 := by decide +kernel
theorem sg_bck : ∀ j, j ∈ [123, 125, 40, 41, 44, 59, 61, 60, 43, 45, 42, 46] → isSg (nI j) := by
  intro j hj
  simp only [List.mem_cons, List.not_mem_nil, or_false] at hj
  rcases hj with h | h | h | h | h | h | h | h | h | h | h | h <;> subst h
  · exact ⟨0, by decide, by decide⟩
  · exact ⟨1, by decide, by decide⟩
  · exact ⟨2, by decide, by decide⟩
  · exact ⟨3, by decide, by decide⟩
  · exact ⟨4, by decide, by decide⟩
  · exact ⟨5, by decide, by decide⟩
  · exact ⟨6, by decide, by decide⟩
  · exact ⟨7, by decide, by decide⟩
  · exact ⟨8, by decide, by decide⟩
  · exact ⟨9, by decide, by decide⟩
  · exact ⟨10, by decide, by decide⟩
  · exact ⟨11, by decide, by decide⟩
theorem sg_yes {x : Int32} {j : Nat} (hj : j ∈ [123, 125, 40, 41, 44, 59, 61, 60, 43, 45, 42, 46]) (h : x.toInt = (j : Int)) (hb : j < 127) : isSg x := by
  have e : x = nI j := Int32.toInt_inj.mp (by rw [nI_toInt (by omega)]; exact h)
  rw [e]
  exact sg_bck j hj
theorem sg_no {x : Int32} (h : x.toInt ≠ 123 ∧ x.toInt ≠ 125 ∧ x.toInt ≠ 40 ∧ x.toInt ≠ 41 ∧ x.toInt ≠ 44 ∧ x.toInt ≠ 59 ∧ x.toInt ≠ 61 ∧ x.toInt ≠ 60 ∧ x.toInt ≠ 43 ∧ x.toInt ≠ 45 ∧ x.toInt ≠ 42 ∧ x.toInt ≠ 46) : ¬ isSg x := by
  intro ⟨i, hi, q⟩
  have z := sg_all i hi
  rw [q] at z
  omega
theorem rk_l : ∀ n, n < 127 → nI n - 97 + 1 = nI n - 96 ∧ nI n - 48 + 27 = nI n - 21 := by decide +kernel
theorem rk_cd {x : Int32} (h : isLD x) : (if 97 ≤ x.toInt ∧ x.toInt ≤ 122 then x - 96 else x - 21).toInt64 = cd x := by
  have hx : 0 ≤ x.toInt ∧ x.toInt ≤ 126 := by
    rcases h with h | h
    · have a := h.1
      have b := h.2
      omega
    · have a := h.1
      have b := h.2
      omega
  have e := rk_l x.toInt.toNat (by omega)
  rw [← tp_nI hx] at e
  unfold cd
  rcases h with h | h
  · have h2 : 97 ≤ x.toInt ∧ x.toInt ≤ 122 := h
    rw [if_pos h2, if_neg (by omega), e.1]
  · have h2 : 48 ≤ x.toInt ∧ x.toInt ≤ 57 := h
    rw [if_neg (by omega), if_pos h2, e.2]
def RCt (f : Nat → Int32) (s e : Nat) (so : Int) (w : Int64) : Prop :=
  (isDg (f s) → (9 < e - s → so = 4) ∧ (e - s ≤ 9 → so = 2 ∧ w = nv f s (e - s))) ∧ (isLt (f s) → (12 < e - s → so = 4) ∧ (e - s ≤ 12 → so = 1 ∧ w = wv f s (e - s))) ∧ (¬ isDg (f s) → ¬ isLt (f s) → ((isSg (f s) ∧ so = 3) ∨ (¬ isSg (f s) ∧ so = 4)) ∧ w = (f s).toInt64)
def RTK (f : Nat → Int32) (S E : Nat → Nat) (V : Vf) (L : Lf) (t : Nat) : Prop := ∀ j, j < t → (V 5 j).toInt = (S j : Int) ∧ RCt f (S j) (E (j + 1)) (V 4 j).toInt (L 6 j)
def RTq (V A : Vf) (B : Lf) (t p : Nat) : Prop := ∃ S E : Nat → Nat, TKS (V 1) (V 0 2).toInt.toNat S E t p ∧ RTK (V 1) S E A B t
theorem RTq.z {V A : Vf} {B : Lf} : RTq V A B 0 0 := ⟨fun _ => 0, fun _ => 0, ⟨rfl, fun j hj => absurd hj (Nat.not_lt_zero _), Nat.le_refl _, Nat.zero_le _, fun k _ b => absurd b (Nat.not_lt_zero _)⟩, fun j hj => absurd hj (Nat.not_lt_zero _)⟩
theorem RTq.bl {V A : Vf} {B : Lf} {t p p2 : Nat} (h : RTq V A B t p) (e : p2 = p + 1) (hp : p < (V 0 2).toInt.toNat) (b : isBl (V 1 p)) : RTq V A B t p2 := by
  obtain ⟨S, E, k1, k2⟩ := h
  exact ⟨S, E, by rw [e]; exact k1.bl hp b, k2⟩
theorem RTq.tk {V A A1 A2 : Vf} {B M : Lf} {t t1 t2 p e e2 : Nat} {z so : Int32} {v : Int64} (h : RTq V A B t p) (h1 : A1 = up2 A 5 t1 z) (h2 : A2 = up2 A1 4 t1 so) (hL : M = upL B 6 t1 v) (q0 : t1 = t) (q1 : t2 = t + 1) (q2 : e2 = e) (hz : z.toInt = (p : Int)) (b : ¬ isBl (V 1 p)) (te : TE (V 1) (V 0 2).toInt.toNat p e) (rc : RCt (V 1) p e so.toInt v) : RTq V A2 M t2 e2 := by
  obtain ⟨S, E, k1, k2⟩ := h
  subst q0 q1 q2
  have f4 : A2 4 = upd (A 4) t1 so := by rw [up2_fn h2, (up2_fo h1 (by decide) : A1 4 = A 4)]
  have f5 : A2 5 = upd (A 5) t1 z := by rw [(up2_fo h2 (by decide) : A2 5 = A1 5), up2_fn h1]
  refine ⟨upN S t1 p, upN E (t1 + 1) e2, k1.tk b te, fun j hj => ?_⟩
  by_cases q : j = t1
  · rw [q, upN_s, upN_s, f4, f5, upL_s hL, show upd (A 4) t1 so t1 = so from if_pos rfl, show upd (A 5) t1 z t1 = z from if_pos rfl]
    exact ⟨hz, rc⟩
  · have m6 : M 6 j = B 6 j := by
      rw [hL]
      unfold upL vp_updL
      rw [if_pos rfl, if_neg q]
    rw [upN_o _ _ _ q, upN_o _ _ _ (by omega), f4, f5, m6, show upd (A 4) t1 so j = A 4 j from if_neg q, show upd (A 5) t1 z j = A 5 j from if_neg q]
    exact k2 j (by omega)
/-- all tokens are cut -/
def RTE (V W : Vf) (M : Lf) : Prop := ∃ t : Nat, t ≤ 4000 ∧ RTq V W M t (V 0 2).toInt.toNat ∧ W 4 t = 0 ∧ W 5 t = V 0 2
theorem RTE.mk {V A A1 A2 W : Vf} {M : Lf} {t t1 p : Nat} {z : Int32} (h : RTq V A M t p) (h1 : A1 = up2 A 4 t1 0) (h2 : A2 = up2 A1 5 t1 z) (w4 : W 4 = A2 4) (w5 : W 5 = A2 5) (q0 : t1 = t) (q1 : p = (V 0 2).toInt.toNat) (hz : z = V 0 2) (ht : t ≤ 4000) : RTE V W M := by
  obtain ⟨S, E, k1, k2⟩ := h
  subst q0 q1 hz
  have f4 : W 4 = upd (A 4) t1 0 := by rw [w4, (up2_fo h2 (by decide) : A2 4 = A1 4), up2_fn h1]
  have f5 : W 5 = upd (A 5) t1 (V 0 2) := by rw [w5, up2_fn h2, (up2_fo h1 (by decide) : A1 5 = A 5)]
  refine ⟨t1, ht, ⟨S, E, k1, fun j hj => ?_⟩, by rw [f4]; exact if_pos rfl, by rw [f5]; exact if_pos rfl⟩
  rw [f4, f5, show upd (A 4) t1 0 j = A 4 j from if_neg (by omega), show upd (A 5) t1 (V 0 2) j = A 5 j from if_neg (by omega)]
  exact k2 j hj


abbrev r_s_isSignOf2 : Room := { frames := 0, cells := 0, slots := 0, locals := 0 }
abbrev q_s_isSignOf2 (D : va_G) (p0 : Int32) (A : Nat → Prop) : Array Value → State → Outcome → State → Prop := va_Qi (fun (r : Int32) (_ : Unit) => (0 ≤ r.toInt ∧ r.toInt ≤ 1) ∧ ((r.toInt = 1 ∧ isSg p0) ∨ (r.toInt = 0 ∧ ¬ isSg p0))) (fun _ t => gq D A [] [] t) A
set_option maxHeartbeats 4000000 in
set_option maxRecDepth 100000 in
theorem s_isSignOf2 (l : Launch) (D : va_G) (ks : KS) (sz : Nat) (p0 : Int32)  : Met l yX12_isSignOf (Cond.code yX12_isSignOf cX12_isSignOf 1 (some .boolean) :: GW) r_s_isSignOf2 (va_Pc [.int p0] (gp D ks ([]) ([]) sz)) (q_s_isSignOf2 D p0 (va_A ([]) sz)) 0 0 (va_A ([]) sz) := by
  refine g_met (q_s_isSignOf2 D p0) (by decide) (Nat.le_of_ble_eq_true rfl) ?_
  intro p e s m below meth c A ls H locs hx hb hr hml hown hg hlocks hin hnw hgk hP hK hD hS hA hl
  have hown : s.vm.findClass RX12 = some m.cls := hown
  have hl : lv_has ls 1 [(0, .int p0)] := hl
  refine lv_iload_n hx hb dX12_isSignOf_0 rfl (lv_at hl 0 rfl) ?_
  refine lv_bipush (v := 123) hx hb dX12_isSignOf_1 (by decide) ?_
  refine lv_icmp_eq (tgt := 72) hx hb dX12_isSignOf_3 (by decide) (fun c1 => ?_) (fun c1 => ?_)
  · skip
    have f2 : p0.toInt = 123 := b_eq rfl (by decide) c1
    refine lv_iconst (v := 1) hx hb dX12_isSignOf_72 (by decide) ?_
    refine lv_goto (tgt := 77) hx hb dX12_isSignOf_73 (by decide) ?_
    exact W.zret (v := 1) hx hb hr rfl (fun t ht hW => ⟨⟨1, (), rfl, ⟨(by decide), (Or.inl ⟨by decide, sg_yes (j := 123) (by decide) (by omega) (by decide)⟩)⟩, by rw [ht]; exact hP, va_K.moved hW.alike hK, hD⟩, hS.F ht⟩) hS.2.2 dX12_isSignOf_77
  · skip
    have f3 : p0.toInt ≠ 123 := b_neq rfl (by decide) c1
    refine lv_iload_n hx hb dX12_isSignOf_6 rfl (lv_at hl 0 rfl) ?_
    refine lv_bipush (v := 125) hx hb dX12_isSignOf_7 (by decide) ?_
    refine lv_icmp_eq (tgt := 72) hx hb dX12_isSignOf_9 (by decide) (fun c4 => ?_) (fun c4 => ?_)
    · skip
      have f5 : p0.toInt = 125 := b_eq rfl (by decide) c4
      refine lv_iconst (v := 1) hx hb dX12_isSignOf_72 (by decide) ?_
      refine lv_goto (tgt := 77) hx hb dX12_isSignOf_73 (by decide) ?_
      exact W.zret (v := 1) hx hb hr rfl (fun t ht hW => ⟨⟨1, (), rfl, ⟨(by decide), (Or.inl ⟨by decide, sg_yes (j := 125) (by decide) (by omega) (by decide)⟩)⟩, by rw [ht]; exact hP, va_K.moved hW.alike hK, hD⟩, hS.F ht⟩) hS.2.2 dX12_isSignOf_77
    · skip
      have f6 : p0.toInt ≠ 125 := b_neq rfl (by decide) c4
      refine lv_iload_n hx hb dX12_isSignOf_12 rfl (lv_at hl 0 rfl) ?_
      refine lv_bipush (v := 40) hx hb dX12_isSignOf_13 (by decide) ?_
      refine lv_icmp_eq (tgt := 72) hx hb dX12_isSignOf_15 (by decide) (fun c7 => ?_) (fun c7 => ?_)
      · skip
        have f8 : p0.toInt = 40 := b_eq rfl (by decide) c7
        refine lv_iconst (v := 1) hx hb dX12_isSignOf_72 (by decide) ?_
        refine lv_goto (tgt := 77) hx hb dX12_isSignOf_73 (by decide) ?_
        exact W.zret (v := 1) hx hb hr rfl (fun t ht hW => ⟨⟨1, (), rfl, ⟨(by decide), (Or.inl ⟨by decide, sg_yes (j := 40) (by decide) (by omega) (by decide)⟩)⟩, by rw [ht]; exact hP, va_K.moved hW.alike hK, hD⟩, hS.F ht⟩) hS.2.2 dX12_isSignOf_77
      · skip
        have f9 : p0.toInt ≠ 40 := b_neq rfl (by decide) c7
        refine lv_iload_n hx hb dX12_isSignOf_18 rfl (lv_at hl 0 rfl) ?_
        refine lv_bipush (v := 41) hx hb dX12_isSignOf_19 (by decide) ?_
        refine lv_icmp_eq (tgt := 72) hx hb dX12_isSignOf_21 (by decide) (fun c10 => ?_) (fun c10 => ?_)
        · skip
          have f11 : p0.toInt = 41 := b_eq rfl (by decide) c10
          refine lv_iconst (v := 1) hx hb dX12_isSignOf_72 (by decide) ?_
          refine lv_goto (tgt := 77) hx hb dX12_isSignOf_73 (by decide) ?_
          exact W.zret (v := 1) hx hb hr rfl (fun t ht hW => ⟨⟨1, (), rfl, ⟨(by decide), (Or.inl ⟨by decide, sg_yes (j := 41) (by decide) (by omega) (by decide)⟩)⟩, by rw [ht]; exact hP, va_K.moved hW.alike hK, hD⟩, hS.F ht⟩) hS.2.2 dX12_isSignOf_77
        · skip
          have f12 : p0.toInt ≠ 41 := b_neq rfl (by decide) c10
          refine lv_iload_n hx hb dX12_isSignOf_24 rfl (lv_at hl 0 rfl) ?_
          refine lv_bipush (v := 44) hx hb dX12_isSignOf_25 (by decide) ?_
          refine lv_icmp_eq (tgt := 72) hx hb dX12_isSignOf_27 (by decide) (fun c13 => ?_) (fun c13 => ?_)
          · skip
            have f14 : p0.toInt = 44 := b_eq rfl (by decide) c13
            refine lv_iconst (v := 1) hx hb dX12_isSignOf_72 (by decide) ?_
            refine lv_goto (tgt := 77) hx hb dX12_isSignOf_73 (by decide) ?_
            exact W.zret (v := 1) hx hb hr rfl (fun t ht hW => ⟨⟨1, (), rfl, ⟨(by decide), (Or.inl ⟨by decide, sg_yes (j := 44) (by decide) (by omega) (by decide)⟩)⟩, by rw [ht]; exact hP, va_K.moved hW.alike hK, hD⟩, hS.F ht⟩) hS.2.2 dX12_isSignOf_77
          · skip
            have f15 : p0.toInt ≠ 44 := b_neq rfl (by decide) c13
            refine lv_iload_n hx hb dX12_isSignOf_30 rfl (lv_at hl 0 rfl) ?_
            refine lv_bipush (v := 59) hx hb dX12_isSignOf_31 (by decide) ?_
            refine lv_icmp_eq (tgt := 72) hx hb dX12_isSignOf_33 (by decide) (fun c16 => ?_) (fun c16 => ?_)
            · skip
              have f17 : p0.toInt = 59 := b_eq rfl (by decide) c16
              refine lv_iconst (v := 1) hx hb dX12_isSignOf_72 (by decide) ?_
              refine lv_goto (tgt := 77) hx hb dX12_isSignOf_73 (by decide) ?_
              exact W.zret (v := 1) hx hb hr rfl (fun t ht hW => ⟨⟨1, (), rfl, ⟨(by decide), (Or.inl ⟨by decide, sg_yes (j := 59) (by decide) (by omega) (by decide)⟩)⟩, by rw [ht]; exact hP, va_K.moved hW.alike hK, hD⟩, hS.F ht⟩) hS.2.2 dX12_isSignOf_77
            · skip
              have f18 : p0.toInt ≠ 59 := b_neq rfl (by decide) c16
              refine lv_iload_n hx hb dX12_isSignOf_36 rfl (lv_at hl 0 rfl) ?_
              refine lv_bipush (v := 61) hx hb dX12_isSignOf_37 (by decide) ?_
              refine lv_icmp_eq (tgt := 72) hx hb dX12_isSignOf_39 (by decide) (fun c19 => ?_) (fun c19 => ?_)
              · skip
                have f20 : p0.toInt = 61 := b_eq rfl (by decide) c19
                refine lv_iconst (v := 1) hx hb dX12_isSignOf_72 (by decide) ?_
                refine lv_goto (tgt := 77) hx hb dX12_isSignOf_73 (by decide) ?_
                exact W.zret (v := 1) hx hb hr rfl (fun t ht hW => ⟨⟨1, (), rfl, ⟨(by decide), (Or.inl ⟨by decide, sg_yes (j := 61) (by decide) (by omega) (by decide)⟩)⟩, by rw [ht]; exact hP, va_K.moved hW.alike hK, hD⟩, hS.F ht⟩) hS.2.2 dX12_isSignOf_77
              · skip
                have f21 : p0.toInt ≠ 61 := b_neq rfl (by decide) c19
                refine lv_iload_n hx hb dX12_isSignOf_42 rfl (lv_at hl 0 rfl) ?_
                refine lv_bipush (v := 60) hx hb dX12_isSignOf_43 (by decide) ?_
                refine lv_icmp_eq (tgt := 72) hx hb dX12_isSignOf_45 (by decide) (fun c22 => ?_) (fun c22 => ?_)
                · skip
                  have f23 : p0.toInt = 60 := b_eq rfl (by decide) c22
                  refine lv_iconst (v := 1) hx hb dX12_isSignOf_72 (by decide) ?_
                  refine lv_goto (tgt := 77) hx hb dX12_isSignOf_73 (by decide) ?_
                  exact W.zret (v := 1) hx hb hr rfl (fun t ht hW => ⟨⟨1, (), rfl, ⟨(by decide), (Or.inl ⟨by decide, sg_yes (j := 60) (by decide) (by omega) (by decide)⟩)⟩, by rw [ht]; exact hP, va_K.moved hW.alike hK, hD⟩, hS.F ht⟩) hS.2.2 dX12_isSignOf_77
                · skip
                  have f24 : p0.toInt ≠ 60 := b_neq rfl (by decide) c22
                  refine lv_iload_n hx hb dX12_isSignOf_48 rfl (lv_at hl 0 rfl) ?_
                  refine lv_bipush (v := 43) hx hb dX12_isSignOf_49 (by decide) ?_
                  refine lv_icmp_eq (tgt := 72) hx hb dX12_isSignOf_51 (by decide) (fun c25 => ?_) (fun c25 => ?_)
                  · skip
                    have f26 : p0.toInt = 43 := b_eq rfl (by decide) c25
                    refine lv_iconst (v := 1) hx hb dX12_isSignOf_72 (by decide) ?_
                    refine lv_goto (tgt := 77) hx hb dX12_isSignOf_73 (by decide) ?_
                    exact W.zret (v := 1) hx hb hr rfl (fun t ht hW => ⟨⟨1, (), rfl, ⟨(by decide), (Or.inl ⟨by decide, sg_yes (j := 43) (by decide) (by omega) (by decide)⟩)⟩, by rw [ht]; exact hP, va_K.moved hW.alike hK, hD⟩, hS.F ht⟩) hS.2.2 dX12_isSignOf_77
                  · skip
                    have f27 : p0.toInt ≠ 43 := b_neq rfl (by decide) c25
                    refine lv_iload_n hx hb dX12_isSignOf_54 rfl (lv_at hl 0 rfl) ?_
                    refine lv_bipush (v := 45) hx hb dX12_isSignOf_55 (by decide) ?_
                    refine lv_icmp_eq (tgt := 72) hx hb dX12_isSignOf_57 (by decide) (fun c28 => ?_) (fun c28 => ?_)
                    · skip
                      have f29 : p0.toInt = 45 := b_eq rfl (by decide) c28
                      refine lv_iconst (v := 1) hx hb dX12_isSignOf_72 (by decide) ?_
                      refine lv_goto (tgt := 77) hx hb dX12_isSignOf_73 (by decide) ?_
                      exact W.zret (v := 1) hx hb hr rfl (fun t ht hW => ⟨⟨1, (), rfl, ⟨(by decide), (Or.inl ⟨by decide, sg_yes (j := 45) (by decide) (by omega) (by decide)⟩)⟩, by rw [ht]; exact hP, va_K.moved hW.alike hK, hD⟩, hS.F ht⟩) hS.2.2 dX12_isSignOf_77
                    · skip
                      have f30 : p0.toInt ≠ 45 := b_neq rfl (by decide) c28
                      refine lv_iload_n hx hb dX12_isSignOf_60 rfl (lv_at hl 0 rfl) ?_
                      refine lv_bipush (v := 42) hx hb dX12_isSignOf_61 (by decide) ?_
                      refine lv_icmp_eq (tgt := 72) hx hb dX12_isSignOf_63 (by decide) (fun c31 => ?_) (fun c31 => ?_)
                      · skip
                        have f32 : p0.toInt = 42 := b_eq rfl (by decide) c31
                        refine lv_iconst (v := 1) hx hb dX12_isSignOf_72 (by decide) ?_
                        refine lv_goto (tgt := 77) hx hb dX12_isSignOf_73 (by decide) ?_
                        exact W.zret (v := 1) hx hb hr rfl (fun t ht hW => ⟨⟨1, (), rfl, ⟨(by decide), (Or.inl ⟨by decide, sg_yes (j := 42) (by decide) (by omega) (by decide)⟩)⟩, by rw [ht]; exact hP, va_K.moved hW.alike hK, hD⟩, hS.F ht⟩) hS.2.2 dX12_isSignOf_77
                      · skip
                        have f33 : p0.toInt ≠ 42 := b_neq rfl (by decide) c31
                        refine lv_iload_n hx hb dX12_isSignOf_66 rfl (lv_at hl 0 rfl) ?_
                        refine lv_bipush (v := 46) hx hb dX12_isSignOf_67 (by decide) ?_
                        refine lv_icmp_ne (tgt := 76) hx hb dX12_isSignOf_69 (by decide) (fun c34 => ?_) (fun c34 => ?_)
                        · skip
                          have f35 : p0.toInt ≠ 46 := b_neq rfl (by decide) c34
                          refine lv_iconst (v := 0) hx hb dX12_isSignOf_76 (by decide) ?_
                          exact W.zret (v := 0) hx hb hr rfl (fun t ht hW => ⟨⟨0, (), rfl, ⟨(by decide), (Or.inr ⟨by decide, sg_no (by omega)⟩)⟩, by rw [ht]; exact hP, va_K.moved hW.alike hK, hD⟩, hS.F ht⟩) hS.2.2 dX12_isSignOf_77
                        · skip
                          have f36 : p0.toInt = 46 := b_eq rfl (by decide) c34
                          refine lv_iconst (v := 1) hx hb dX12_isSignOf_72 (by decide) ?_
                          refine lv_goto (tgt := 77) hx hb dX12_isSignOf_73 (by decide) ?_
                          exact W.zret (v := 1) hx hb hr rfl (fun t ht hW => ⟨⟨1, (), rfl, ⟨(by decide), (Or.inl ⟨by decide, sg_yes (j := 46) (by decide) (by omega) (by decide)⟩)⟩, by rw [ht]; exact hP, va_K.moved hW.alike hK, hD⟩, hS.F ht⟩) hS.2.2 dX12_isSignOf_77
abbrev r_s_rank2 : Room := { frames := 1, cells := 0, slots := 0, locals := 20 }
abbrev q_s_rank2 (D : va_G) (p0 : Int32) (A : Nat → Prop) : Array Value → State → Outcome → State → Prop := va_Qi (fun (r : Int32) (_ : Unit) => (r = (if 97 ≤ p0.toInt ∧ p0.toInt ≤ 122 then p0 - 96 else p0 - 21))) (fun _ t => gq D A [] [] t) A
set_option maxHeartbeats 4000000 in
set_option maxRecDepth 100000 in
theorem s_rank2 (l : Launch) (D : va_G) (ks : KS) (sz : Nat) (p0 : Int32)  : Met l yX12_rank (Cond.code yX12_rank cX12_rank 1 (some .int) :: GW) r_s_rank2 (va_Pc [.int p0] (gp D ks ([]) ([]) sz)) (q_s_rank2 D p0 (va_A ([]) sz)) 0 0 (va_A ([]) sz) := by
  refine g_met (q_s_rank2 D p0) (by decide) (Nat.le_of_ble_eq_true rfl) ?_
  intro p e s m below meth c A ls H locs hx hb hr hml hown hg hlocks hin hnw hgk hP hK hD hS hA hl
  have hown : s.vm.findClass RX12 = some m.cls := hown
  have hl : lv_has ls 1 [(0, .int p0)] := hl
  refine lv_iload_n hx hb dX12_rank_0 rfl (lv_at hl 0 rfl) ?_
  refine gE_int (g_runS (As := [.int p0]) (rest := []) (wc := []) (tc := []) hx hb hml hown hg gw_self hP hD hK hS hA hnw hgk [] [] (by decide) rfl rfl (s_isLetter l D ks H.size p0 ) w1703 w1704 w172 w1705 hdS_yX12_isLetter ⟨Nat.le_of_ble_eq_true rfl, Nat.le_of_ble_eq_true rfl⟩ rfl hl.1 rfl (Nat.le_of_ble_eq_true rfl) dX12_rank_1 ⟨Nat.le_of_ble_eq_true rfl, Nat.le_of_ble_eq_true rfl⟩) hP hD hK hS hA (fun z1 u2 H locs w3 hP hD hK hS => ?_)
  obtain ⟨rgz1, t4, t5⟩ := w3
  have rgz1 : 0 ≤ z1.toInt ∧ z1.toInt ≤ 1 := rgz1
  have t4 : Imp (z1.toInt = 1) (97 ≤ p0.toInt ∧ p0.toInt ≤ 122) := t4
  have t5 : Imp (z1.toInt = 0) (p0.toInt < 97 ∨ 122 < p0.toInt) := t5
  refine lv_if_eq (tgt := 14) hx hb dX12_rank_4 (by decide) (fun c6 => ?_) (fun c6 => ?_)
  · skip
    have f7 : z1.toInt = 0 := b_eq rfl (by decide) c6
    refine lv_iload_n hx hb dX12_rank_14 rfl (lv_at hl 0 rfl) ?_
    refine lv_bipush (v := 21) hx hb dX12_rank_15 (by decide) ?_
    refine lv_isub hx hb dX12_rank_17 ?_
    have r8 := i_full p0
    refine lv_topi (fun z9 ez9 => ?_)
    have hz9 : Imp (-2147483648 ≤ p0.toInt - 21 ∧ p0.toInt - 21 ≤ 2147483647) (z9.toInt = p0.toInt - 21) := Imp.mk (fun hp => i_sub ez9 rfl (by decide) hp)
    exact W.iret (v := z9) hx hb hr (fun t ht hW => ⟨⟨z9, (), rfl, (by rw [if_neg (by have q := Imp.go t5 (by omega); omega), ez9]), by rw [ht]; exact hP, va_K.moved hW.alike hK, hD⟩, hS.F ht⟩) hS.2.2 dX12_rank_18
  · skip
    have f10 : z1.toInt ≠ 0 := b_neq rfl (by decide) c6
    refine lv_iload_n hx hb dX12_rank_7 rfl (lv_at hl 0 rfl) ?_
    refine lv_bipush (v := 96) hx hb dX12_rank_8 (by decide) ?_
    refine lv_isub hx hb dX12_rank_10 ?_
    have r11 := i_full p0
    refine lv_topi (fun z12 ez12 => ?_)
    have hz12 : Imp (-2147483648 ≤ p0.toInt - 96 ∧ p0.toInt - 96 ≤ 2147483647) (z12.toInt = p0.toInt - 96) := Imp.mk (fun hp => i_sub ez12 rfl (by decide) hp)
    refine lv_goto (tgt := 18) hx hb dX12_rank_11 (by decide) ?_
    exact W.iret (v := z12) hx hb hr (fun t ht hW => ⟨⟨z12, (), rfl, (by rw [if_pos (Imp.go t4 (by omega)), ez12]), by rw [ht]; exact hP, va_K.moved hW.alike hK, hD⟩, hS.F ht⟩) hS.2.2 dX12_rank_18
abbrev r_s_cutAll2 : Room := { frames := 2, cells := 0, slots := 0, locals := 40 }
abbrev q_s_cutAll2 (D : va_G) (ks : KS) (ad : Nat → Nat) (kk : Nat → ClassId) (V : Vf) (L : Lf) (A : Nat → Prop) : Array Value → State → Outcome → State → Prop := va_Qv (fun (u : Vf × Lf) => rgd bM u.1 ∧ agr [(0, 2), (0, 3), (0, 7), (0, 8)] [4, 5, 6] V u.1 ∧ agL [4, 5, 6] L u.2 ∧ ((u.1 0 8).toInt = 0) ∧ ((u.1 0 7).toInt = 0) ∧ ((u.1 0 2).toInt = 0) ∧ (RTE V u.1 u.2)) (fun u t => gq D A (mw ad kk ks.1 u.1 u.2) (mty kk) t) A
set_option maxHeartbeats 4000000 in
set_option maxRecDepth 100000 in
theorem s_cutAll2 (l : Launch) (D : va_G) (ks : KS) (sz : Nat) (ad : Nat → Nat) (kk : Nat → ClassId) (V : Vf) (L : Lf)  (hMV : rgd bM V)  : Met l yX12_cutAll (Cond.code yX12_cutAll cX12_cutAll 7 none :: GW) r_s_cutAll2 (va_Pc [.ref (ad 0)] (gp D ks (mw ad kk ks.1 V L) (mty kk) sz)) (q_s_cutAll2 D ks ad kk V L  (va_A (mw ad kk ks.1 V L) sz)) 0 0 (va_A (mw ad kk ks.1 V L) sz) := by
  refine g_met (q_s_cutAll2 D ks ad kk V L) (by decide) (Nat.le_of_ble_eq_true rfl) ?_
  intro p e s m below meth c A ls H locs hx hb hr hml hown hg hlocks hin hnw hgk hP hK hD hS hA hl
  have hown : s.vm.findClass RX12 = some m.cls := hown
  have hl : lv_has ls 7 [(0, .ref (ad 0))] := hl
  have hP : va_P D vwCl (mw ad kk ks.1 V L) H := hP
  have hD : va_D A (mw ad kk ks.1 V L) := hD
  have hK : va_K D vwCl (mty kk) s := hK
  have agV : agr [(0, 2), (0, 3), (0, 7), (0, 8)] [4, 5, 6] V V := agr.rf
  have alL : agL [4, 5, 6] L L := agL.rf
  refine lv_aload_n hx hb dX12_cutAll_0 rfl (lv_at hl 0 rfl) ?_
  refine lv_aload_n hx hb dX12_cutAll_1 rfl (lv_at hl 0 rfl) ?_
  refine va_get (D := D) (ci := 12) (v := .int (V 0 2)) (C := RX12) (T := TX12) (N := 100) hx hb hg inX12 hown hK hP 0 rfl rfl 2 (by decide) (hg _ w1708) (fun _ h9 => h9) rfl dX12_cutAll_2 ?_
  have r1 : 0 ≤ ((V 0 2)).toInt ∧ ((V 0 2)).toInt ≤ 4000 := hMV 0 2
  refine va_put (D := D) (ci := 12) (v := .int (V 0 2)) (ty := tyX12 3) (C := RX12) (T := TX12) (N := 100) hx hb hg inX12 tyX12 tyX12_ok nmX12 hown hK hP hD hS 0 rfl rfl 3 (by decide) (hg _ w1709) (fun _ h9 => h9) rfl (tyX12_ok 3 (by decide)) rfl rfl (Nat.le_of_ble_eq_true rfl) dX12_cutAll_5 (fun H locs hP hD hS => ?_)
  obtain ⟨V2, hV2⟩ : ∃ z, z = up2 V 0 3 (V 0 2) := ⟨_, rfl⟩
  have hP : va_P D vwCl (mw ad kk ks.1 V2 L) H := by rw [hV2]; exact hP
  have hD : va_D A (mw ad kk ks.1 V2 L) := by rw [hV2]; exact hD
  have hMV2 : rgd bM V2 := hMV.put hV2 (show 0 ≤ ((V 0 2)).toInt ∧ ((V 0 2)).toInt ≤ 4000 from by omega)
  have agV2 : agr [(0, 2), (0, 3), (0, 7), (0, 8)] [4, 5, 6] V V2 := agV.up hV2 rfl
  refine lv_aload_n hx hb dX12_cutAll_8 rfl (lv_at hl 0 rfl) ?_
  refine lv_iconst (v := 0) hx hb dX12_cutAll_9 (by decide) ?_
  refine va_put (D := D) (ci := 12) (v := .int 0) (ty := tyX12 2) (C := RX12) (T := TX12) (N := 100) hx hb hg inX12 tyX12 tyX12_ok nmX12 hown hK hP hD hS 0 rfl rfl 2 (by decide) (hg _ w1708) (fun _ h9 => h9) rfl (tyX12_ok 2 (by decide)) rfl rfl (Nat.le_of_ble_eq_true rfl) dX12_cutAll_10 (fun H locs hP hD hS => ?_)
  obtain ⟨V3, hV3⟩ : ∃ z, z = up2 V2 0 2 0 := ⟨_, rfl⟩
  have hP : va_P D vwCl (mw ad kk ks.1 V3 L) H := by rw [hV3]; exact hP
  have hD : va_D A (mw ad kk ks.1 V3 L) := by rw [hV3]; exact hD
  have hMV3 : rgd bM V3 := hMV2.put hV3 (by decide)
  have agV3 : agr [(0, 2), (0, 3), (0, 7), (0, 8)] [4, 5, 6] V V3 := agV2.up hV3 rfl
  refine lv_iconst (v := 0) hx hb dX12_cutAll_13 (by decide) ?_
  refine lv_istore_n (lv' := [(1, .int 0), (0, .ref (ad 0))]) hx hb dX12_cutAll_14 rfl hl (by decide) rfl (fun ls hl => ?_)
  refine lv_iconst (v := 0) hx hb dX12_cutAll_15 (by decide) ?_
  refine lv_istore_n (lv' := [(2, .int 0), (1, .int 0), (0, .ref (ad 0))]) hx hb dX12_cutAll_16 rfl hl (by decide) rfl (fun ls hl => ?_)
  have lp8 : ∀ (fulp8 : Nat) (y4 : Int32) (y5 : Int32) (V6 : Vf) (L7 : Lf) (H : Heap) (locs : List Loc) (ls : Array Slot), 0 ≤ y4.toInt ∧ y4.toInt ≤ 4000 → 0 ≤ y5.toInt ∧ y5.toInt ≤ 4000 → y5.toInt ≤ y4.toInt → y4.toInt ≤ (V6 0 3).toInt → (RTq V V6 L7 (y5.toInt).toNat (y4.toInt).toNat) → (V6 0 3).toInt - y4.toInt < (fulp8 : Int) → agL [4, 5, 6] L L7 → agr [] [4, 5, 6] V3 V6 → rgd bM V6 → va_P D vwCl (mw ad kk ks.1 V6 L7) H → va_D A (mw ad kk ks.1 V6 L7) → va_S A s.heap H locs → lv_has ls 7 [(2, .int y4), (1, .int y5), (0, .ref (ad 0))] → W p l e r_s_cutAll2 s m ([.ref (ad 0)] : List Value).toArray below meth c H locs 0 0 (MQ below (q_s_cutAll2 D ks ad kk V L  A) ([.ref (ad 0)] : List Value).toArray s 0 0 A) (F0 m 17 ls []) := by
    intro fulp8
    induction fulp8 with
    | zero =>
      intro y4 y5 V6 L7 H locs ls klp8_0 klp8_1 xlp8_0 xlp8_1 xlp8_2 hn alL7 ajV6 hMV6 hP hD hS hl
      exfalso; omega
    | succ fulp8 ihlp8 =>
      intro y4 y5 V6 L7 H locs ls klp8_0 klp8_1 xlp8_0 xlp8_1 xlp8_2 hn alL7 ajV6 hMV6 hP hD hS hl
      have agV6 : agr [(0, 2), (0, 3), (0, 7), (0, 8)] [4, 5, 6] V V6 := agV3.tr ajV6 (by decide) (by decide)
      have pq9 : (V6 0 3).toInt = ((V 0 2)).toInt := congrArg Int32.toInt ((ajV6 0 3 rfl).trans ((up2_k hV3 (by decide)).trans (up2_s hV2)))
      refine lv_iload_n hx hb dX12_cutAll_17 rfl (lv_at hl 0 rfl) ?_
      refine lv_aload_n hx hb dX12_cutAll_18 rfl (lv_at hl 2 rfl) ?_
      refine va_get (D := D) (ci := 12) (v := .int (V6 0 3)) (C := RX12) (T := TX12) (N := 100) hx hb hg inX12 hown hK hP 0 rfl rfl 3 (by decide) (hg _ w1709) (fun _ h9 => h9) rfl dX12_cutAll_19 ?_
      refine g_top (v := (V 0 2)) ((ajV6 0 3 rfl).trans ((up2_k hV3 (by decide)).trans (up2_s hV2))) ?_
      refine lv_icmp_ge (tgt := 293) hx hb dX12_cutAll_22 (by decide) (fun c10 => ?_) (fun c10 => ?_)
      · skip
        have f11 : ((V 0 2)).toInt ≤ y4.toInt := b_le rfl rfl c10
        refine lv_aload_n hx hb dX12_cutAll_293 rfl (lv_at hl 2 rfl) ?_
        refine va_get (D := D) (ci := 12) (v := .ref (ad 4)) (C := RX12) (T := TX12) (N := 100) hx hb hg inX12 hown hK hP 0 rfl rfl 4 (by decide) (hg _ w1710) (fun _ h9 => h9) rfl dX12_cutAll_294 ?_
        refine lv_iload_n hx hb dX12_cutAll_297 rfl (lv_at hl 1 rfl) ?_
        refine lv_iconst (v := 0) hx hb dX12_cutAll_298 (by decide) ?_
        refine va_iast (D := D) (i := y5) (x := 0) hx hb hK hP hD hS 2 1 rfl rfl (i_in (a := y5.toInt) rfl (by omega)) dX12_cutAll_299 (fun H locs hP hD hS => ?_)
        obtain ⟨V12, hV12⟩ : ∃ z, z = up2 V6 4 (Int32.toNatClampNeg y5) 0 := ⟨_, rfl⟩
        have hP : va_P D vwCl (mw ad kk ks.1 V12 L7) H := by rw [hV12]; exact hP
        have hD : va_D A (mw ad kk ks.1 V12 L7) := by rw [hV12]; exact hD
        have hMV12 : rgd bM V12 := hMV6.put hV12 (i_full _)
        have agV12 : agr [(0, 2), (0, 3), (0, 7), (0, 8)] [4, 5, 6] V V12 := agV6.up hV12 rfl
        refine lv_aload_n hx hb dX12_cutAll_300 rfl (lv_at hl 2 rfl) ?_
        refine va_get (D := D) (ci := 12) (v := .ref (ad 5)) (C := RX12) (T := TX12) (N := 100) hx hb hg inX12 hown hK hP 0 rfl rfl 5 (by decide) (hg _ w1711) (fun _ h9 => h9) rfl dX12_cutAll_301 ?_
        refine lv_iload_n hx hb dX12_cutAll_304 rfl (lv_at hl 1 rfl) ?_
        refine lv_aload_n hx hb dX12_cutAll_305 rfl (lv_at hl 2 rfl) ?_
        refine va_get (D := D) (ci := 12) (v := .int (V12 0 3)) (C := RX12) (T := TX12) (N := 100) hx hb hg inX12 hown hK hP 0 rfl rfl 3 (by decide) (hg _ w1709) (fun _ h9 => h9) rfl dX12_cutAll_306 ?_
        refine g_top (v := (V 0 2)) ((up2_o hV12 (by decide)).trans ((ajV6 0 3 rfl).trans ((up2_k hV3 (by decide)).trans (up2_s hV2)))) ?_
        refine va_iast (D := D) (i := y5) (x := (V 0 2)) hx hb hK hP hD hS 3 2 rfl rfl (i_in (a := y5.toInt) rfl (by omega)) dX12_cutAll_309 (fun H locs hP hD hS => ?_)
        obtain ⟨V13, hV13⟩ : ∃ z, z = up2 V12 5 (Int32.toNatClampNeg y5) (V 0 2) := ⟨_, rfl⟩
        have hP : va_P D vwCl (mw ad kk ks.1 V13 L7) H := by rw [hV13]; exact hP
        have hD : va_D A (mw ad kk ks.1 V13 L7) := by rw [hV13]; exact hD
        have hMV13 : rgd bM V13 := hMV12.put hV13 (show 0 ≤ ((V 0 2)).toInt ∧ ((V 0 2)).toInt ≤ 4000 from by omega)
        have agV13 : agr [(0, 2), (0, 3), (0, 7), (0, 8)] [4, 5, 6] V V13 := agV12.up hV13 rfl
        refine lv_aload_n hx hb dX12_cutAll_310 rfl (lv_at hl 2 rfl) ?_
        refine lv_iconst (v := 0) hx hb dX12_cutAll_311 (by decide) ?_
        refine va_put (D := D) (ci := 12) (v := .int 0) (ty := tyX12 7) (C := RX12) (T := TX12) (N := 100) hx hb hg inX12 tyX12 tyX12_ok nmX12 hown hK hP hD hS 0 rfl rfl 7 (by decide) (hg _ w1713) (fun _ h9 => h9) rfl (tyX12_ok 7 (by decide)) rfl rfl (Nat.le_of_ble_eq_true rfl) dX12_cutAll_312 (fun H locs hP hD hS => ?_)
        obtain ⟨V14, hV14⟩ : ∃ z, z = up2 V13 0 7 0 := ⟨_, rfl⟩
        have hP : va_P D vwCl (mw ad kk ks.1 V14 L7) H := by rw [hV14]; exact hP
        have hD : va_D A (mw ad kk ks.1 V14 L7) := by rw [hV14]; exact hD
        have hMV14 : rgd bM V14 := hMV13.put hV14 (i_full _)
        have agV14 : agr [(0, 2), (0, 3), (0, 7), (0, 8)] [4, 5, 6] V V14 := agV13.up hV14 rfl
        refine lv_aload_n hx hb dX12_cutAll_315 rfl (lv_at hl 2 rfl) ?_
        refine lv_iconst (v := 0) hx hb dX12_cutAll_316 (by decide) ?_
        refine va_put (D := D) (ci := 12) (v := .int 0) (ty := tyX12 8) (C := RX12) (T := TX12) (N := 100) hx hb hg inX12 tyX12 tyX12_ok nmX12 hown hK hP hD hS 0 rfl rfl 8 (by decide) (hg _ w1714) (fun _ h9 => h9) rfl (tyX12_ok 8 (by decide)) rfl rfl (Nat.le_of_ble_eq_true rfl) dX12_cutAll_317 (fun H locs hP hD hS => ?_)
        obtain ⟨V15, hV15⟩ : ∃ z, z = up2 V14 0 8 0 := ⟨_, rfl⟩
        have hP : va_P D vwCl (mw ad kk ks.1 V15 L7) H := by rw [hV15]; exact hP
        have hD : va_D A (mw ad kk ks.1 V15 L7) := by rw [hV15]; exact hD
        have hMV15 : rgd bM V15 := hMV14.put hV15 (by decide)
        have agV15 : agr [(0, 2), (0, 3), (0, 7), (0, 8)] [4, 5, 6] V V15 := agV14.up hV15 rfl
        have pq16 : (V15 0 8).toInt = 0 := (congrArg Int32.toInt (up2_s hV15)).trans (by decide)
        have pq17 : (V15 0 7).toInt = 0 := (congrArg Int32.toInt ((up2_k hV15 (by decide)).trans (up2_s hV14))).trans (by decide)
        have pq18 : (V15 0 2).toInt = 0 := (congrArg Int32.toInt ((up2_k hV15 (by decide)).trans ((up2_k hV14 (by decide)).trans ((up2_o hV13 (by decide)).trans ((up2_o hV12 (by decide)).trans ((ajV6 0 2 rfl).trans (up2_s hV3))))))).trans (by decide)
        have kz19 := i_clamp (x := y5) rfl (by omega)
        have rp20 : RTE V V15 L7 := RTE.mk xlp8_2 hV12 hV13 (by rw [(up2_fo hV15 (by decide) : V15 4 = V14 4), (up2_fo hV14 (by decide) : V14 4 = V13 4)] : V15 4 = V13 4) (by rw [(up2_fo hV15 (by decide) : V15 5 = V14 5), (up2_fo hV14 (by decide) : V14 5 = V13 5)] : V15 5 = V13 5) (by omega) (by omega) rfl (by omega)
        exact W.vret hx hb hr (fun t ht hW => ⟨⟨(V15, L7), rfl, ⟨hMV15, agV15, alL7, (show (V15 0 8).toInt = 0 from by omega), (show (V15 0 7).toInt = 0 from by omega), (show (V15 0 2).toInt = 0 from by omega), rp20⟩, by rw [ht]; exact hP, va_K.moved hW.alike hK, hD⟩, hS.F ht⟩) hS.2.2 dX12_cutAll_320
      · skip
        have f21 : y4.toInt < ((V 0 2)).toInt := b_nle rfl rfl c10
        refine lv_aload_n hx hb dX12_cutAll_25 rfl (lv_at hl 2 rfl) ?_
        refine va_get (D := D) (ci := 12) (v := .ref (ad 1)) (C := RX12) (T := TX12) (N := 100) hx hb hg inX12 hown hK hP 0 rfl rfl 1 (by decide) (hg _ w1707) (fun _ h9 => h9) rfl dX12_cutAll_26 ?_
        refine lv_iload_n hx hb dX12_cutAll_29 rfl (lv_at hl 0 rfl) ?_
        refine va_iald (D := D) (i := y4) hx hb hK hP 1 0 rfl rfl (i_in (a := y4.toInt) rfl (by omega)) dX12_cutAll_30 ?_
        refine g_top (v := (V 1 (Int32.toNatClampNeg y4))) ((ajV6 1 (Int32.toNatClampNeg y4) rfl).trans ((up2_o hV3 (by decide)).trans (up2_o hV2 (by decide)))) ?_
        refine lv_istore_n (lv' := [(3, .int (V 1 (Int32.toNatClampNeg y4))), (2, .int y4), (1, .int y5), (0, .ref (ad 0))]) hx hb dX12_cutAll_31 rfl hl (by decide) rfl (fun ls hl => ?_)
        refine lv_iload_n hx hb dX12_cutAll_32 rfl (lv_at hl 0 rfl) ?_
        refine lv_bipush (v := 10) hx hb dX12_cutAll_33 (by decide) ?_
        refine lv_icmp_eq (tgt := 44) hx hb dX12_cutAll_35 (by decide) (fun c22 => ?_) (fun c22 => ?_)
        · skip
          have f23 : ((V 1 (Int32.toNatClampNeg y4))).toInt = 10 := b_eq rfl (by decide) c22
          obtain ⟨z24, ez24⟩ : ∃ y : Int32, y = y4 + 1 := ⟨_, rfl⟩
          have hz24 : z24.toInt = y4.toInt + 1 := i_add ez24 rfl (by decide) (by omega)
          refine lv_iinc (v := z24) (lv' := [(2, .int z24), (3, .int (V 1 (Int32.toNatClampNeg y4))), (1, .int y5), (0, .ref (ad 0))]) hx hb dX12_cutAll_44 hl (k := 1) rfl (by rw [ez24]; rfl) (by decide) rfl (fun ls hl => ?_)
          refine lv_goto (tgt := 17) hx hb dX12_cutAll_47 (by decide) ?_
          have kz25 := i_clamp (x := y4) rfl (by omega)
          have ez : y4.toInt.toNat = Int32.toNatClampNeg y4 := by omega
          exact ihlp8 z24 y5 V6 L7 H locs ls (by omega) (by omega) (show y5.toInt ≤ z24.toInt from by omega) (show z24.toInt ≤ (V6 0 3).toInt from by omega) (RTq.bl xlp8_2 (by omega) (by omega) (by rw [ez]; unfold isBl; omega)) (by omega) alL7 (agr.tr agr.rf ajV6 (by decide) (by decide)) hMV6 hP hD hS (lv_sub hl [0, 2, 3] rfl)
        · skip
          have f26 : ((V 1 (Int32.toNatClampNeg y4))).toInt ≠ 10 := b_neq rfl (by decide) c22
          refine lv_iload_n hx hb dX12_cutAll_38 rfl (lv_at hl 0 rfl) ?_
          refine lv_bipush (v := 32) hx hb dX12_cutAll_39 (by decide) ?_
          refine lv_icmp_ne (tgt := 50) hx hb dX12_cutAll_41 (by decide) (fun c27 => ?_) (fun c27 => ?_)
          · skip
            have f28 : ((V 1 (Int32.toNatClampNeg y4))).toInt ≠ 32 := b_neq rfl (by decide) c27
            refine lv_iload_n hx hb dX12_cutAll_50 rfl (lv_at hl 1 rfl) ?_
            refine lv_istore (lv' := [(4, .int y4), (3, .int (V 1 (Int32.toNatClampNeg y4))), (2, .int y4), (1, .int y5), (0, .ref (ad 0))]) hx hb dX12_cutAll_51 hl (by decide) rfl (fun ls hl => ?_)
            refine lv_lconst (v := 0) hx hb dX12_cutAll_53 (by decide) ?_
            refine lv_lstore (lv' := [(5, .long 0), (4, .int y4), (3, .int (V 1 (Int32.toNatClampNeg y4))), (2, .int y4), (1, .int y5), (0, .ref (ad 0))]) hx hb dX12_cutAll_54 hl (by decide) rfl (fun ls hl => ?_)
            refine lv_aload_n hx hb dX12_cutAll_56 rfl (lv_at hl 5 rfl) ?_
            refine va_get (D := D) (ci := 12) (v := .ref (ad 5)) (C := RX12) (T := TX12) (N := 100) hx hb hg inX12 hown hK hP 0 rfl rfl 5 (by decide) (hg _ w1711) (fun _ h9 => h9) rfl dX12_cutAll_57 ?_
            refine lv_iload_n hx hb dX12_cutAll_60 rfl (lv_at hl 4 rfl) ?_
            refine lv_iload_n hx hb dX12_cutAll_61 rfl (lv_at hl 3 rfl) ?_
            refine va_iast (D := D) (i := y5) (x := y4) hx hb hK hP hD hS 3 2 rfl rfl (i_in (a := y5.toInt) rfl (by omega)) dX12_cutAll_62 (fun H locs hP hD hS => ?_)
            obtain ⟨V29, hV29⟩ : ∃ z, z = up2 V6 5 (Int32.toNatClampNeg y5) y4 := ⟨_, rfl⟩
            have hP : va_P D vwCl (mw ad kk ks.1 V29 L7) H := by rw [hV29]; exact hP
            have hD : va_D A (mw ad kk ks.1 V29 L7) := by rw [hV29]; exact hD
            have hMV29 : rgd bM V29 := hMV6.put hV29 (show 0 ≤ y4.toInt ∧ y4.toInt ≤ 4000 from by omega)
            have agV29 : agr [(0, 2), (0, 3), (0, 7), (0, 8)] [4, 5, 6] V V29 := agV6.up hV29 rfl
            refine lv_iload_n hx hb dX12_cutAll_63 rfl (lv_at hl 2 rfl) ?_
            refine gE_int (g_runS (As := [.int (V 1 (Int32.toNatClampNeg y4))]) (rest := []) (wc := []) (tc := []) hx hb hml hown hg gw_self hP hD hK hS hA hnw hgk [] [] (by decide) rfl rfl (s_isLetter l D ks H.size (V 1 (Int32.toNatClampNeg y4)) ) w1703 w1704 w172 w1705 hdS_yX12_isLetter ⟨Nat.le_of_ble_eq_true rfl, Nat.le_of_ble_eq_true rfl⟩ rfl hl.1 rfl (Nat.le_of_ble_eq_true rfl) dX12_cutAll_64 ⟨Nat.le_of_ble_eq_true rfl, Nat.le_of_ble_eq_true rfl⟩) hP hD hK hS hA (fun z30 u31 H locs w32 hP hD hK hS => ?_)
            obtain ⟨rgz30, t33, t34⟩ := w32
            have rgz30 : 0 ≤ z30.toInt ∧ z30.toInt ≤ 1 := rgz30
            have t33 : Imp (z30.toInt = 1) (97 ≤ ((V 1 (Int32.toNatClampNeg y4))).toInt ∧ ((V 1 (Int32.toNatClampNeg y4))).toInt ≤ 122) := t33
            have t34 : Imp (z30.toInt = 0) (((V 1 (Int32.toNatClampNeg y4))).toInt < 97 ∨ 122 < ((V 1 (Int32.toNatClampNeg y4))).toInt) := t34
            refine lv_if_eq (tgt := 164) hx hb dX12_cutAll_67 (by decide) (fun c35 => ?_) (fun c35 => ?_)
            · skip
              have f36 : z30.toInt = 0 := b_eq rfl (by decide) c35
              refine lv_iload_n hx hb dX12_cutAll_164 rfl (lv_at hl 2 rfl) ?_
              refine gE_int (g_runS (As := [.int (V 1 (Int32.toNatClampNeg y4))]) (rest := []) (wc := []) (tc := []) hx hb hml hown hg gw_self hP hD hK hS hA hnw hgk [] [] (by decide) rfl rfl (s_isDigit l D ks H.size (V 1 (Int32.toNatClampNeg y4)) ) w2015 w2016 w172 w2017 hdS_yX12_isDigit ⟨Nat.le_of_ble_eq_true rfl, Nat.le_of_ble_eq_true rfl⟩ rfl hl.1 rfl (Nat.le_of_ble_eq_true rfl) dX12_cutAll_165 ⟨Nat.le_of_ble_eq_true rfl, Nat.le_of_ble_eq_true rfl⟩) hP hD hK hS hA (fun z37 u38 H locs w39 hP hD hK hS => ?_)
              obtain ⟨rgz37, t40, t41⟩ := w39
              have rgz37 : 0 ≤ z37.toInt ∧ z37.toInt ≤ 1 := rgz37
              have t40 : Imp (z37.toInt = 1) (48 ≤ ((V 1 (Int32.toNatClampNeg y4))).toInt ∧ ((V 1 (Int32.toNatClampNeg y4))).toInt ≤ 57) := t40
              have t41 : Imp (z37.toInt = 0) (((V 1 (Int32.toNatClampNeg y4))).toInt < 48 ∨ 57 < ((V 1 (Int32.toNatClampNeg y4))).toInt) := t41
              refine lv_if_eq (tgt := 254) hx hb dX12_cutAll_168 (by decide) (fun c42 => ?_) (fun c42 => ?_)
              · skip
                have f43 : z37.toInt = 0 := b_eq rfl (by decide) c42
                refine lv_iload_n hx hb dX12_cutAll_254 rfl (lv_at hl 2 rfl) ?_
                refine lv_i2l hx hb dX12_cutAll_255 rfl ?_
                refine lv_topl (fun w44 ew44 => ?_)
                refine lv_lstore (lv' := [(5, .long w44), (4, .int y4), (3, .int (V 1 (Int32.toNatClampNeg y4))), (2, .int y4), (1, .int y5), (0, .ref (ad 0))]) hx hb dX12_cutAll_256 hl (by decide) rfl (fun ls hl => ?_)
                refine lv_aload_n hx hb dX12_cutAll_258 rfl (lv_at hl 5 rfl) ?_
                refine va_get (D := D) (ci := 12) (v := .ref (ad 4)) (C := RX12) (T := TX12) (N := 100) hx hb hg inX12 hown hK hP 0 rfl rfl 4 (by decide) (hg _ w1710) (fun _ h9 => h9) rfl dX12_cutAll_259 ?_
                refine lv_iload_n hx hb dX12_cutAll_262 rfl (lv_at hl 4 rfl) ?_
                refine lv_iload_n hx hb dX12_cutAll_263 rfl (lv_at hl 2 rfl) ?_
                refine gE_int (g_runS (As := [.int (V 1 (Int32.toNatClampNeg y4))]) (rest := [.int y5, .ref (ad 4)]) (wc := []) (tc := []) hx hb hml hown hg gw_self hP hD hK hS hA hnw hgk [] [] (by decide) rfl rfl (s_isSignOf2 l D ks H.size (V 1 (Int32.toNatClampNeg y4)) ) w2020 w2021 w172 w2022 hdS_yX12_isSignOf ⟨Nat.le_of_ble_eq_true rfl, Nat.le_of_ble_eq_true rfl⟩ rfl hl.1 rfl (Nat.le_of_ble_eq_true rfl) dX12_cutAll_264 ⟨Nat.le_of_ble_eq_true rfl, Nat.le_of_ble_eq_true rfl⟩) hP hD hK hS hA (fun z45 u46 H locs w47 hP hD hK hS => ?_)
                obtain ⟨rgz45, t48⟩ := w47
                have rgz45 : 0 ≤ z45.toInt ∧ z45.toInt ≤ 1 := rgz45
                have t48 : (z45.toInt = 1 ∧ isSg (V 1 (Int32.toNatClampNeg y4))) ∨ (z45.toInt = 0 ∧ ¬ isSg (V 1 (Int32.toNatClampNeg y4))) := t48
                refine lv_if_eq (tgt := 274) hx hb dX12_cutAll_267 (by decide) (fun c49 => ?_) (fun c49 => ?_)
                · skip
                  have f50 : z45.toInt = 0 := b_eq rfl (by decide) c49
                  refine lv_iconst (v := 4) hx hb dX12_cutAll_274 (by decide) ?_
                  refine va_iast (D := D) (i := y5) (x := 4) hx hb hK hP hD hS 2 1 rfl rfl (i_in (a := y5.toInt) rfl (by first | omega | ((try (have i_t41 := Imp.go t41 (by omega))); (try (have i_t40 := Imp.go t40 (by omega))); (try (have i_t34 := Imp.go t34 (by omega))); (try (have i_t33 := Imp.go t33 (by omega))); (try (have i_t33 := Imp.go t33 (by omega))); (try (have i_t34 := Imp.go t34 (by omega))); (try (have i_t40 := Imp.go t40 (by omega))); (try (have i_t41 := Imp.go t41 (by omega))); omega))) dX12_cutAll_275 (fun H locs hP hD hS => ?_)
                  obtain ⟨V51, hV51⟩ : ∃ z, z = up2 V29 4 (Int32.toNatClampNeg y5) 4 := ⟨_, rfl⟩
                  have hP : va_P D vwCl (mw ad kk ks.1 V51 L7) H := by rw [hV51]; exact hP
                  have hD : va_D A (mw ad kk ks.1 V51 L7) := by rw [hV51]; exact hD
                  have hMV51 : rgd bM V51 := hMV29.put hV51 (i_full _)
                  have agV51 : agr [(0, 2), (0, 3), (0, 7), (0, 8)] [4, 5, 6] V V51 := agV29.up hV51 rfl
                  obtain ⟨z52, ez52⟩ : ∃ y : Int32, y = y4 + 1 := ⟨_, rfl⟩
                  have hz52 : z52.toInt = y4.toInt + 1 := i_add ez52 rfl (by decide) (by omega)
                  refine lv_iinc (v := z52) (lv' := [(2, .int z52), (5, .long w44), (4, .int y4), (3, .int (V 1 (Int32.toNatClampNeg y4))), (1, .int y5), (0, .ref (ad 0))]) hx hb dX12_cutAll_276 hl (k := 3) rfl (by rw [ez52]; rfl) (by decide) rfl (fun ls hl => ?_)
                  refine lv_aload_n hx hb dX12_cutAll_279 rfl (lv_at hl 5 rfl) ?_
                  refine va_get (D := D) (ci := 12) (v := .ref (ad 6)) (C := RX12) (T := TX12) (N := 100) hx hb hg inX12 hown hK hP 0 rfl rfl 6 (by decide) (hg _ w1712) (fun _ h9 => h9) rfl dX12_cutAll_280 ?_
                  refine lv_iload_n hx hb dX12_cutAll_283 rfl (lv_at hl 4 rfl) ?_
                  refine lv_lload hx hb dX12_cutAll_284 (lv_at hl 1 rfl) ?_
                  refine va_last (D := D) (i := y5) (x := w44) hx hb hK hP hD hS 4 3 rfl rfl (i_in (a := y5.toInt) rfl (by first | omega | ((try (have i_t41 := Imp.go t41 (by omega))); (try (have i_t40 := Imp.go t40 (by omega))); (try (have i_t34 := Imp.go t34 (by omega))); (try (have i_t33 := Imp.go t33 (by omega))); (try (have i_t33 := Imp.go t33 (by omega))); (try (have i_t34 := Imp.go t34 (by omega))); (try (have i_t40 := Imp.go t40 (by omega))); (try (have i_t41 := Imp.go t41 (by omega))); omega))) dX12_cutAll_286 (fun H locs hP hD hS => ?_)
                  obtain ⟨L53, hL53⟩ : ∃ z, z = upL L7 6 (Int32.toNatClampNeg y5) w44 := ⟨_, rfl⟩
                  have hP : va_P D vwCl (mw ad kk ks.1 V51 L53) H := by rw [hL53]; exact hP
                  have hD : va_D A (mw ad kk ks.1 V51 L53) := by rw [hL53]; exact hD
                  have alL53 : agL [4, 5, 6] L L53 := agL.up alL7 hL53 rfl
                  obtain ⟨z54, ez54⟩ : ∃ y : Int32, y = y5 + 1 := ⟨_, rfl⟩
                  have hz54 : z54.toInt = y5.toInt + 1 := i_add ez54 rfl (by decide) (by omega)
                  refine lv_iinc (v := z54) (lv' := [(1, .int z54), (2, .int z52), (5, .long w44), (4, .int y4), (3, .int (V 1 (Int32.toNatClampNeg y4))), (0, .ref (ad 0))]) hx hb dX12_cutAll_287 hl (k := 4) rfl (by rw [ez54]; rfl) (by decide) rfl (fun ls hl => ?_)
                  refine lv_goto (tgt := 17) hx hb dX12_cutAll_290 (by decide) ?_
                  have pq55 : (V51 0 3).toInt = ((V 0 2)).toInt := congrArg Int32.toInt ((up2_o hV51 (by decide)).trans ((up2_o hV29 (by decide)).trans ((ajV6 0 3 rfl).trans ((up2_k hV3 (by decide)).trans (up2_s hV2)))))
                  have kz56 := i_clamp (x := y4) rfl (by omega)
                  have ez : y4.toInt.toNat = Int32.toNatClampNeg y4 := by omega
                  have kz57 := i_clamp (x := y5) rfl (by omega)
                  have n1 : ¬ isDg (V 1 y4.toInt.toNat) := by rw [ez]; exact fun z => by have y := Imp.go t41 (by omega); have z1 := z.1; have z2 := z.2; omega
                  have n2 : ¬ isLt (V 1 y4.toInt.toNat) := by rw [ez]; exact fun z => by have y := Imp.go t34 (by omega); have z1 := z.1; have z2 := z.2; omega
                  exact ihlp8 z52 z54 V51 L53 H locs ls (by first | omega | ((try (have i_t41 := Imp.go t41 (by omega))); (try (have i_t40 := Imp.go t40 (by omega))); (try (have i_t34 := Imp.go t34 (by omega))); (try (have i_t33 := Imp.go t33 (by omega))); (try (have i_t33 := Imp.go t33 (by omega))); (try (have i_t34 := Imp.go t34 (by omega))); (try (have i_t40 := Imp.go t40 (by omega))); (try (have i_t41 := Imp.go t41 (by omega))); omega)) (by first | omega | ((try (have i_t41 := Imp.go t41 (by omega))); (try (have i_t40 := Imp.go t40 (by omega))); (try (have i_t34 := Imp.go t34 (by omega))); (try (have i_t33 := Imp.go t33 (by omega))); (try (have i_t33 := Imp.go t33 (by omega))); (try (have i_t34 := Imp.go t34 (by omega))); (try (have i_t40 := Imp.go t40 (by omega))); (try (have i_t41 := Imp.go t41 (by omega))); omega)) (show z54.toInt ≤ z52.toInt from by first | omega | ((try (have i_t41 := Imp.go t41 (by omega))); (try (have i_t40 := Imp.go t40 (by omega))); (try (have i_t34 := Imp.go t34 (by omega))); (try (have i_t33 := Imp.go t33 (by omega))); (try (have i_t33 := Imp.go t33 (by omega))); (try (have i_t34 := Imp.go t34 (by omega))); (try (have i_t40 := Imp.go t40 (by omega))); (try (have i_t41 := Imp.go t41 (by omega))); omega)) (show z52.toInt ≤ (V51 0 3).toInt from by first | omega | ((try (have i_t41 := Imp.go t41 (by omega))); (try (have i_t40 := Imp.go t40 (by omega))); (try (have i_t34 := Imp.go t34 (by omega))); (try (have i_t33 := Imp.go t33 (by omega))); (try (have i_t33 := Imp.go t33 (by omega))); (try (have i_t34 := Imp.go t34 (by omega))); (try (have i_t40 := Imp.go t40 (by omega))); (try (have i_t41 := Imp.go t41 (by omega))); omega)) (RTq.tk (t := y5.toInt.toNat) (p := y4.toInt.toNat) (e := z52.toInt.toNat) xlp8_2 hV29 hV51 hL53 (by omega) (by first | omega | ((try (have i_t41 := Imp.go t41 (by omega))); (try (have i_t40 := Imp.go t40 (by omega))); (try (have i_t34 := Imp.go t34 (by omega))); (try (have i_t33 := Imp.go t33 (by omega))); (try (have i_t33 := Imp.go t33 (by omega))); (try (have i_t34 := Imp.go t34 (by omega))); (try (have i_t40 := Imp.go t40 (by omega))); (try (have i_t41 := Imp.go t41 (by omega))); omega)) rfl (by omega) (by rw [ez]; unfold isBl; omega) (Or.inr (Or.inr ⟨n1, n2, by first | omega | ((try (have i_t41 := Imp.go t41 (by omega))); (try (have i_t40 := Imp.go t40 (by omega))); (try (have i_t34 := Imp.go t34 (by omega))); (try (have i_t33 := Imp.go t33 (by omega))); (try (have i_t33 := Imp.go t33 (by omega))); (try (have i_t34 := Imp.go t34 (by omega))); (try (have i_t40 := Imp.go t40 (by omega))); (try (have i_t41 := Imp.go t41 (by omega))); omega), by first | omega | ((try (have i_t41 := Imp.go t41 (by omega))); (try (have i_t40 := Imp.go t40 (by omega))); (try (have i_t34 := Imp.go t34 (by omega))); (try (have i_t33 := Imp.go t33 (by omega))); (try (have i_t33 := Imp.go t33 (by omega))); (try (have i_t34 := Imp.go t34 (by omega))); (try (have i_t40 := Imp.go t40 (by omega))); (try (have i_t41 := Imp.go t41 (by omega))); omega)⟩)) ⟨fun q => absurd q n1, fun q => absurd q n2, fun _ _ => ⟨t48.elim (fun q => absurd q.1 (by omega)) (fun q => Or.inr ⟨by rw [ez]; exact q.2, by decide⟩), by rw [ez]; exact ew44⟩⟩) (by first | omega | ((try (have i_t41 := Imp.go t41 (by omega))); (try (have i_t40 := Imp.go t40 (by omega))); (try (have i_t34 := Imp.go t34 (by omega))); (try (have i_t33 := Imp.go t33 (by omega))); (try (have i_t33 := Imp.go t33 (by omega))); (try (have i_t34 := Imp.go t34 (by omega))); (try (have i_t40 := Imp.go t40 (by omega))); (try (have i_t41 := Imp.go t41 (by omega))); omega)) alL53 (agr.up (agr.up (agr.tr agr.rf ajV6 (by decide) (by decide)) hV29 rfl) hV51 rfl) hMV51 hP hD hS (lv_sub hl [1, 0, 5] rfl)
                · skip
                  have f58 : z45.toInt ≠ 0 := b_neq rfl (by decide) c49
                  refine lv_iconst (v := 3) hx hb dX12_cutAll_270 (by decide) ?_
                  refine lv_goto (tgt := 275) hx hb dX12_cutAll_271 (by decide) ?_
                  refine va_iast (D := D) (i := y5) (x := 3) hx hb hK hP hD hS 2 1 rfl rfl (i_in (a := y5.toInt) rfl (by first | omega | ((try (have i_t41 := Imp.go t41 (by omega))); (try (have i_t40 := Imp.go t40 (by omega))); (try (have i_t34 := Imp.go t34 (by omega))); (try (have i_t33 := Imp.go t33 (by omega))); (try (have i_t33 := Imp.go t33 (by omega))); (try (have i_t34 := Imp.go t34 (by omega))); (try (have i_t40 := Imp.go t40 (by omega))); (try (have i_t41 := Imp.go t41 (by omega))); omega))) dX12_cutAll_275 (fun H locs hP hD hS => ?_)
                  obtain ⟨V59, hV59⟩ : ∃ z, z = up2 V29 4 (Int32.toNatClampNeg y5) 3 := ⟨_, rfl⟩
                  have hP : va_P D vwCl (mw ad kk ks.1 V59 L7) H := by rw [hV59]; exact hP
                  have hD : va_D A (mw ad kk ks.1 V59 L7) := by rw [hV59]; exact hD
                  have hMV59 : rgd bM V59 := hMV29.put hV59 (i_full _)
                  have agV59 : agr [(0, 2), (0, 3), (0, 7), (0, 8)] [4, 5, 6] V V59 := agV29.up hV59 rfl
                  obtain ⟨z60, ez60⟩ : ∃ y : Int32, y = y4 + 1 := ⟨_, rfl⟩
                  have hz60 : z60.toInt = y4.toInt + 1 := i_add ez60 rfl (by decide) (by omega)
                  refine lv_iinc (v := z60) (lv' := [(2, .int z60), (5, .long w44), (4, .int y4), (3, .int (V 1 (Int32.toNatClampNeg y4))), (1, .int y5), (0, .ref (ad 0))]) hx hb dX12_cutAll_276 hl (k := 3) rfl (by rw [ez60]; rfl) (by decide) rfl (fun ls hl => ?_)
                  refine lv_aload_n hx hb dX12_cutAll_279 rfl (lv_at hl 5 rfl) ?_
                  refine va_get (D := D) (ci := 12) (v := .ref (ad 6)) (C := RX12) (T := TX12) (N := 100) hx hb hg inX12 hown hK hP 0 rfl rfl 6 (by decide) (hg _ w1712) (fun _ h9 => h9) rfl dX12_cutAll_280 ?_
                  refine lv_iload_n hx hb dX12_cutAll_283 rfl (lv_at hl 4 rfl) ?_
                  refine lv_lload hx hb dX12_cutAll_284 (lv_at hl 1 rfl) ?_
                  refine va_last (D := D) (i := y5) (x := w44) hx hb hK hP hD hS 4 3 rfl rfl (i_in (a := y5.toInt) rfl (by first | omega | ((try (have i_t41 := Imp.go t41 (by omega))); (try (have i_t40 := Imp.go t40 (by omega))); (try (have i_t34 := Imp.go t34 (by omega))); (try (have i_t33 := Imp.go t33 (by omega))); (try (have i_t33 := Imp.go t33 (by omega))); (try (have i_t34 := Imp.go t34 (by omega))); (try (have i_t40 := Imp.go t40 (by omega))); (try (have i_t41 := Imp.go t41 (by omega))); omega))) dX12_cutAll_286 (fun H locs hP hD hS => ?_)
                  obtain ⟨L61, hL61⟩ : ∃ z, z = upL L7 6 (Int32.toNatClampNeg y5) w44 := ⟨_, rfl⟩
                  have hP : va_P D vwCl (mw ad kk ks.1 V59 L61) H := by rw [hL61]; exact hP
                  have hD : va_D A (mw ad kk ks.1 V59 L61) := by rw [hL61]; exact hD
                  have alL61 : agL [4, 5, 6] L L61 := agL.up alL7 hL61 rfl
                  obtain ⟨z62, ez62⟩ : ∃ y : Int32, y = y5 + 1 := ⟨_, rfl⟩
                  have hz62 : z62.toInt = y5.toInt + 1 := i_add ez62 rfl (by decide) (by omega)
                  refine lv_iinc (v := z62) (lv' := [(1, .int z62), (2, .int z60), (5, .long w44), (4, .int y4), (3, .int (V 1 (Int32.toNatClampNeg y4))), (0, .ref (ad 0))]) hx hb dX12_cutAll_287 hl (k := 4) rfl (by rw [ez62]; rfl) (by decide) rfl (fun ls hl => ?_)
                  refine lv_goto (tgt := 17) hx hb dX12_cutAll_290 (by decide) ?_
                  have pq63 : (V59 0 3).toInt = ((V 0 2)).toInt := congrArg Int32.toInt ((up2_o hV59 (by decide)).trans ((up2_o hV29 (by decide)).trans ((ajV6 0 3 rfl).trans ((up2_k hV3 (by decide)).trans (up2_s hV2)))))
                  have kz64 := i_clamp (x := y4) rfl (by omega)
                  have ez : y4.toInt.toNat = Int32.toNatClampNeg y4 := by omega
                  have kz65 := i_clamp (x := y5) rfl (by omega)
                  have n1 : ¬ isDg (V 1 y4.toInt.toNat) := by rw [ez]; exact fun z => by have y := Imp.go t41 (by omega); have z1 := z.1; have z2 := z.2; omega
                  have n2 : ¬ isLt (V 1 y4.toInt.toNat) := by rw [ez]; exact fun z => by have y := Imp.go t34 (by omega); have z1 := z.1; have z2 := z.2; omega
                  exact ihlp8 z60 z62 V59 L61 H locs ls (by first | omega | ((try (have i_t41 := Imp.go t41 (by omega))); (try (have i_t40 := Imp.go t40 (by omega))); (try (have i_t34 := Imp.go t34 (by omega))); (try (have i_t33 := Imp.go t33 (by omega))); (try (have i_t33 := Imp.go t33 (by omega))); (try (have i_t34 := Imp.go t34 (by omega))); (try (have i_t40 := Imp.go t40 (by omega))); (try (have i_t41 := Imp.go t41 (by omega))); omega)) (by first | omega | ((try (have i_t41 := Imp.go t41 (by omega))); (try (have i_t40 := Imp.go t40 (by omega))); (try (have i_t34 := Imp.go t34 (by omega))); (try (have i_t33 := Imp.go t33 (by omega))); (try (have i_t33 := Imp.go t33 (by omega))); (try (have i_t34 := Imp.go t34 (by omega))); (try (have i_t40 := Imp.go t40 (by omega))); (try (have i_t41 := Imp.go t41 (by omega))); omega)) (show z62.toInt ≤ z60.toInt from by first | omega | ((try (have i_t41 := Imp.go t41 (by omega))); (try (have i_t40 := Imp.go t40 (by omega))); (try (have i_t34 := Imp.go t34 (by omega))); (try (have i_t33 := Imp.go t33 (by omega))); (try (have i_t33 := Imp.go t33 (by omega))); (try (have i_t34 := Imp.go t34 (by omega))); (try (have i_t40 := Imp.go t40 (by omega))); (try (have i_t41 := Imp.go t41 (by omega))); omega)) (show z60.toInt ≤ (V59 0 3).toInt from by first | omega | ((try (have i_t41 := Imp.go t41 (by omega))); (try (have i_t40 := Imp.go t40 (by omega))); (try (have i_t34 := Imp.go t34 (by omega))); (try (have i_t33 := Imp.go t33 (by omega))); (try (have i_t33 := Imp.go t33 (by omega))); (try (have i_t34 := Imp.go t34 (by omega))); (try (have i_t40 := Imp.go t40 (by omega))); (try (have i_t41 := Imp.go t41 (by omega))); omega)) (RTq.tk (t := y5.toInt.toNat) (p := y4.toInt.toNat) (e := z60.toInt.toNat) xlp8_2 hV29 hV59 hL61 (by omega) (by first | omega | ((try (have i_t41 := Imp.go t41 (by omega))); (try (have i_t40 := Imp.go t40 (by omega))); (try (have i_t34 := Imp.go t34 (by omega))); (try (have i_t33 := Imp.go t33 (by omega))); (try (have i_t33 := Imp.go t33 (by omega))); (try (have i_t34 := Imp.go t34 (by omega))); (try (have i_t40 := Imp.go t40 (by omega))); (try (have i_t41 := Imp.go t41 (by omega))); omega)) rfl (by omega) (by rw [ez]; unfold isBl; omega) (Or.inr (Or.inr ⟨n1, n2, by first | omega | ((try (have i_t41 := Imp.go t41 (by omega))); (try (have i_t40 := Imp.go t40 (by omega))); (try (have i_t34 := Imp.go t34 (by omega))); (try (have i_t33 := Imp.go t33 (by omega))); (try (have i_t33 := Imp.go t33 (by omega))); (try (have i_t34 := Imp.go t34 (by omega))); (try (have i_t40 := Imp.go t40 (by omega))); (try (have i_t41 := Imp.go t41 (by omega))); omega), by first | omega | ((try (have i_t41 := Imp.go t41 (by omega))); (try (have i_t40 := Imp.go t40 (by omega))); (try (have i_t34 := Imp.go t34 (by omega))); (try (have i_t33 := Imp.go t33 (by omega))); (try (have i_t33 := Imp.go t33 (by omega))); (try (have i_t34 := Imp.go t34 (by omega))); (try (have i_t40 := Imp.go t40 (by omega))); (try (have i_t41 := Imp.go t41 (by omega))); omega)⟩)) ⟨fun q => absurd q n1, fun q => absurd q n2, fun _ _ => ⟨t48.elim (fun q => Or.inl ⟨by rw [ez]; exact q.2, by decide⟩) (fun q => absurd q.1 (by omega)), by rw [ez]; exact ew44⟩⟩) (by first | omega | ((try (have i_t41 := Imp.go t41 (by omega))); (try (have i_t40 := Imp.go t40 (by omega))); (try (have i_t34 := Imp.go t34 (by omega))); (try (have i_t33 := Imp.go t33 (by omega))); (try (have i_t33 := Imp.go t33 (by omega))); (try (have i_t34 := Imp.go t34 (by omega))); (try (have i_t40 := Imp.go t40 (by omega))); (try (have i_t41 := Imp.go t41 (by omega))); omega)) alL61 (agr.up (agr.up (agr.tr agr.rf ajV6 (by decide) (by decide)) hV29 rfl) hV59 rfl) hMV59 hP hD hS (lv_sub hl [1, 0, 5] rfl)
              · skip
                have f66 : z37.toInt ≠ 0 := b_neq rfl (by decide) c42
                have lp69 : ∀ (fulp69 : Nat) (y67 : Int64) (y68 : Int32) (H : Heap) (locs : List Loc) (ls : Array Slot), 0 ≤ y68.toInt ∧ y68.toInt ≤ 4000 → y4.toInt ≤ y68.toInt → y68.toInt ≤ (V29 0 3).toInt → (∀ k : Nat, y4.toInt ≤ (k : Int) → (k : Int) < y68.toInt → isDg (V 1 k)) → (y68.toInt - y4.toInt ≤ 9 → y67 = nv (V 1) (y4.toInt).toNat (y68.toInt - y4.toInt).toNat) → (V29 0 3).toInt - y68.toInt < (fulp69 : Int) → va_P D vwCl (mw ad kk ks.1 V29 L7) H → va_D A (mw ad kk ks.1 V29 L7) → va_S A s.heap H locs → lv_has ls 7 [(5, .long y67), (4, .int y4), (3, .int (V 1 (Int32.toNatClampNeg y4))), (2, .int y68), (1, .int y5), (0, .ref (ad 0))] → W p l e r_s_cutAll2 s m ([.ref (ad 0)] : List Value).toArray below meth c H locs 0 0 (MQ below (q_s_cutAll2 D ks ad kk V L  A) ([.ref (ad 0)] : List Value).toArray s 0 0 A) (F0 m 171 ls []) := by
                  intro fulp69
                  induction fulp69 with
                  | zero =>
                    intro y67 y68 H locs ls klp69_0 xlp69_0 xlp69_1 xlp69_2 xlp69_3 hn  hP hD hS hl
                    exfalso; omega
                  | succ fulp69 ihlp69 =>
                    intro y67 y68 H locs ls klp69_0 xlp69_0 xlp69_1 xlp69_2 xlp69_3 hn  hP hD hS hl
                    have pq70 : (V29 0 3).toInt = ((V 0 2)).toInt := congrArg Int32.toInt ((up2_o hV29 (by decide)).trans ((ajV6 0 3 rfl).trans ((up2_k hV3 (by decide)).trans (up2_s hV2))))
                    refine lv_iload_n hx hb dX12_cutAll_171 rfl (lv_at hl 3 rfl) ?_
                    refine lv_aload_n hx hb dX12_cutAll_172 rfl (lv_at hl 5 rfl) ?_
                    refine va_get (D := D) (ci := 12) (v := .int (V29 0 3)) (C := RX12) (T := TX12) (N := 100) hx hb hg inX12 hown hK hP 0 rfl rfl 3 (by decide) (hg _ w1709) (fun _ h9 => h9) rfl dX12_cutAll_173 ?_
                    refine g_top (v := (V 0 2)) ((up2_o hV29 (by decide)).trans ((ajV6 0 3 rfl).trans ((up2_k hV3 (by decide)).trans (up2_s hV2)))) ?_
                    refine lv_icmp_ge (tgt := 231) hx hb dX12_cutAll_176 (by decide) (fun c71 => ?_) (fun c71 => ?_)
                    · skip
                      have f72 : ((V 0 2)).toInt ≤ y68.toInt := b_le rfl rfl c71
                      refine lv_aload_n hx hb dX12_cutAll_231 rfl (lv_at hl 5 rfl) ?_
                      refine va_get (D := D) (ci := 12) (v := .ref (ad 4)) (C := RX12) (T := TX12) (N := 100) hx hb hg inX12 hown hK hP 0 rfl rfl 4 (by decide) (hg _ w1710) (fun _ h9 => h9) rfl dX12_cutAll_232 ?_
                      refine lv_iload_n hx hb dX12_cutAll_235 rfl (lv_at hl 4 rfl) ?_
                      refine lv_iload_n hx hb dX12_cutAll_236 rfl (lv_at hl 3 rfl) ?_
                      refine lv_iload hx hb dX12_cutAll_237 (lv_at hl 1 rfl) ?_
                      refine lv_isub hx hb dX12_cutAll_239 ?_
                      refine lv_topi (fun z73 ez73 => ?_)
                      have hz73 : z73.toInt = y68.toInt - y4.toInt := i_sub ez73 rfl rfl (by omega)
                      refine lv_bipush (v := 9) hx hb dX12_cutAll_240 (by decide) ?_
                      refine lv_icmp_le (tgt := 249) hx hb dX12_cutAll_242 (by decide) (fun c74 => ?_) (fun c74 => ?_)
                      · skip
                        have f75 : z73.toInt ≤ 9 := b_le rfl (by decide) c74
                        refine lv_iconst (v := 2) hx hb dX12_cutAll_249 (by decide) ?_
                        refine va_iast (D := D) (i := y5) (x := 2) hx hb hK hP hD hS 2 1 rfl rfl (i_in (a := y5.toInt) rfl (by first | omega | ((try (have i_t41 := Imp.go t41 (by omega))); (try (have i_t40 := Imp.go t40 (by omega))); (try (have i_t34 := Imp.go t34 (by omega))); (try (have i_t33 := Imp.go t33 (by omega))); (try (have i_t33 := Imp.go t33 (by omega))); (try (have i_t34 := Imp.go t34 (by omega))); (try (have i_t40 := Imp.go t40 (by omega))); (try (have i_t41 := Imp.go t41 (by omega))); omega))) dX12_cutAll_250 (fun H locs hP hD hS => ?_)
                        obtain ⟨V76, hV76⟩ : ∃ z, z = up2 V29 4 (Int32.toNatClampNeg y5) 2 := ⟨_, rfl⟩
                        have hP : va_P D vwCl (mw ad kk ks.1 V76 L7) H := by rw [hV76]; exact hP
                        have hD : va_D A (mw ad kk ks.1 V76 L7) := by rw [hV76]; exact hD
                        have hMV76 : rgd bM V76 := hMV29.put hV76 (i_full _)
                        have agV76 : agr [(0, 2), (0, 3), (0, 7), (0, 8)] [4, 5, 6] V V76 := agV29.up hV76 rfl
                        refine lv_goto (tgt := 279) hx hb dX12_cutAll_251 (by decide) ?_
                        refine lv_aload_n hx hb dX12_cutAll_279 rfl (lv_at hl 5 rfl) ?_
                        refine va_get (D := D) (ci := 12) (v := .ref (ad 6)) (C := RX12) (T := TX12) (N := 100) hx hb hg inX12 hown hK hP 0 rfl rfl 6 (by decide) (hg _ w1712) (fun _ h9 => h9) rfl dX12_cutAll_280 ?_
                        refine lv_iload_n hx hb dX12_cutAll_283 rfl (lv_at hl 4 rfl) ?_
                        refine lv_lload hx hb dX12_cutAll_284 (lv_at hl 0 rfl) ?_
                        refine va_last (D := D) (i := y5) (x := y67) hx hb hK hP hD hS 4 3 rfl rfl (i_in (a := y5.toInt) rfl (by first | omega | ((try (have i_t41 := Imp.go t41 (by omega))); (try (have i_t40 := Imp.go t40 (by omega))); (try (have i_t34 := Imp.go t34 (by omega))); (try (have i_t33 := Imp.go t33 (by omega))); (try (have i_t33 := Imp.go t33 (by omega))); (try (have i_t34 := Imp.go t34 (by omega))); (try (have i_t40 := Imp.go t40 (by omega))); (try (have i_t41 := Imp.go t41 (by omega))); omega))) dX12_cutAll_286 (fun H locs hP hD hS => ?_)
                        obtain ⟨L77, hL77⟩ : ∃ z, z = upL L7 6 (Int32.toNatClampNeg y5) y67 := ⟨_, rfl⟩
                        have hP : va_P D vwCl (mw ad kk ks.1 V76 L77) H := by rw [hL77]; exact hP
                        have hD : va_D A (mw ad kk ks.1 V76 L77) := by rw [hL77]; exact hD
                        have alL77 : agL [4, 5, 6] L L77 := agL.up alL7 hL77 rfl
                        obtain ⟨z78, ez78⟩ : ∃ y : Int32, y = y5 + 1 := ⟨_, rfl⟩
                        have hz78 : z78.toInt = y5.toInt + 1 := i_add ez78 rfl (by decide) (by omega)
                        refine lv_iinc (v := z78) (lv' := [(1, .int z78), (5, .long y67), (4, .int y4), (3, .int (V 1 (Int32.toNatClampNeg y4))), (2, .int y68), (0, .ref (ad 0))]) hx hb dX12_cutAll_287 hl (k := 4) rfl (by rw [ez78]; rfl) (by decide) rfl (fun ls hl => ?_)
                        refine lv_goto (tgt := 17) hx hb dX12_cutAll_290 (by decide) ?_
                        have pq79 : (V76 0 3).toInt = ((V 0 2)).toInt := congrArg Int32.toInt ((up2_o hV76 (by decide)).trans ((up2_o hV29 (by decide)).trans ((ajV6 0 3 rfl).trans ((up2_k hV3 (by decide)).trans (up2_s hV2)))))
                        have kz80 := i_clamp (x := y4) rfl (by omega)
                        have ez : y4.toInt.toNat = Int32.toNatClampNeg y4 := by omega
                        have kz81 := i_clamp (x := y5) rfl (by omega)
                        have hd9 : isDg (V 1 y4.toInt.toNat) := by rw [ez]; exact Imp.go t40 (by omega)
                        have hl0 : y4.toInt.toNat < y68.toInt.toNat := by first | omega | ((try (have i_t41 := Imp.go t41 (by omega))); (try (have i_t40 := Imp.go t40 (by omega))); (try (have i_t34 := Imp.go t34 (by omega))); (try (have i_t33 := Imp.go t33 (by omega))); (try (have i_t33 := Imp.go t33 (by omega))); (try (have i_t34 := Imp.go t34 (by omega))); (try (have i_t40 := Imp.go t40 (by omega))); (try (have i_t41 := Imp.go t41 (by omega))); omega)
                        have hrun : RUN isDg (V 1) (V 0 2).toInt.toNat y4.toInt.toNat y68.toInt.toNat := ⟨hl0, by first | omega | ((try (have i_t41 := Imp.go t41 (by omega))); (try (have i_t40 := Imp.go t40 (by omega))); (try (have i_t34 := Imp.go t34 (by omega))); (try (have i_t33 := Imp.go t33 (by omega))); (try (have i_t33 := Imp.go t33 (by omega))); (try (have i_t34 := Imp.go t34 (by omega))); (try (have i_t40 := Imp.go t40 (by omega))); (try (have i_t41 := Imp.go t41 (by omega))); omega), fun k a b => xlp69_2 k (by omega) (by omega), Or.inl (by first | omega | ((try (have i_t41 := Imp.go t41 (by omega))); (try (have i_t40 := Imp.go t40 (by omega))); (try (have i_t34 := Imp.go t34 (by omega))); (try (have i_t33 := Imp.go t33 (by omega))); (try (have i_t33 := Imp.go t33 (by omega))); (try (have i_t34 := Imp.go t34 (by omega))); (try (have i_t40 := Imp.go t40 (by omega))); (try (have i_t41 := Imp.go t41 (by omega))); omega))⟩
                        exact ihlp8 y68 z78 V76 L77 H locs ls (by first | omega | ((try (have i_t41 := Imp.go t41 (by omega))); (try (have i_t40 := Imp.go t40 (by omega))); (try (have i_t34 := Imp.go t34 (by omega))); (try (have i_t33 := Imp.go t33 (by omega))); (try (have i_t33 := Imp.go t33 (by omega))); (try (have i_t34 := Imp.go t34 (by omega))); (try (have i_t40 := Imp.go t40 (by omega))); (try (have i_t41 := Imp.go t41 (by omega))); omega)) (by first | omega | ((try (have i_t41 := Imp.go t41 (by omega))); (try (have i_t40 := Imp.go t40 (by omega))); (try (have i_t34 := Imp.go t34 (by omega))); (try (have i_t33 := Imp.go t33 (by omega))); (try (have i_t33 := Imp.go t33 (by omega))); (try (have i_t34 := Imp.go t34 (by omega))); (try (have i_t40 := Imp.go t40 (by omega))); (try (have i_t41 := Imp.go t41 (by omega))); omega)) (show z78.toInt ≤ y68.toInt from by first | omega | ((try (have i_t41 := Imp.go t41 (by omega))); (try (have i_t40 := Imp.go t40 (by omega))); (try (have i_t34 := Imp.go t34 (by omega))); (try (have i_t33 := Imp.go t33 (by omega))); (try (have i_t33 := Imp.go t33 (by omega))); (try (have i_t34 := Imp.go t34 (by omega))); (try (have i_t40 := Imp.go t40 (by omega))); (try (have i_t41 := Imp.go t41 (by omega))); omega)) (show y68.toInt ≤ (V76 0 3).toInt from by first | omega | ((try (have i_t41 := Imp.go t41 (by omega))); (try (have i_t40 := Imp.go t40 (by omega))); (try (have i_t34 := Imp.go t34 (by omega))); (try (have i_t33 := Imp.go t33 (by omega))); (try (have i_t33 := Imp.go t33 (by omega))); (try (have i_t34 := Imp.go t34 (by omega))); (try (have i_t40 := Imp.go t40 (by omega))); (try (have i_t41 := Imp.go t41 (by omega))); omega)) (RTq.tk (t := y5.toInt.toNat) (p := y4.toInt.toNat) (e := y68.toInt.toNat) xlp8_2 hV29 hV76 hL77 (by omega) (by first | omega | ((try (have i_t41 := Imp.go t41 (by omega))); (try (have i_t40 := Imp.go t40 (by omega))); (try (have i_t34 := Imp.go t34 (by omega))); (try (have i_t33 := Imp.go t33 (by omega))); (try (have i_t33 := Imp.go t33 (by omega))); (try (have i_t34 := Imp.go t34 (by omega))); (try (have i_t40 := Imp.go t40 (by omega))); (try (have i_t41 := Imp.go t41 (by omega))); omega)) rfl (by omega) (by rw [ez]; unfold isBl; omega) (Or.inl ⟨hd9, hrun⟩) ⟨fun _ => ⟨fun h => absurd h (by first | omega | ((try (have i_t41 := Imp.go t41 (by omega))); (try (have i_t40 := Imp.go t40 (by omega))); (try (have i_t34 := Imp.go t34 (by omega))); (try (have i_t33 := Imp.go t33 (by omega))); (try (have i_t33 := Imp.go t33 (by omega))); (try (have i_t34 := Imp.go t34 (by omega))); (try (have i_t40 := Imp.go t40 (by omega))); (try (have i_t41 := Imp.go t41 (by omega))); omega)), fun h => ⟨by decide, by have z9 := xlp69_3 (by first | omega | ((try (have i_t41 := Imp.go t41 (by omega))); (try (have i_t40 := Imp.go t40 (by omega))); (try (have i_t34 := Imp.go t34 (by omega))); (try (have i_t33 := Imp.go t33 (by omega))); (try (have i_t33 := Imp.go t33 (by omega))); (try (have i_t34 := Imp.go t34 (by omega))); (try (have i_t40 := Imp.go t40 (by omega))); (try (have i_t41 := Imp.go t41 (by omega))); omega)); rw [show (y68.toInt - y4.toInt).toNat = y68.toInt.toNat - y4.toInt.toNat from by omega] at z9; exact z9⟩⟩, fun q => absurd q (fun q => dg_lt hd9 q), fun q => absurd hd9 q⟩) (by first | omega | ((try (have i_t41 := Imp.go t41 (by omega))); (try (have i_t40 := Imp.go t40 (by omega))); (try (have i_t34 := Imp.go t34 (by omega))); (try (have i_t33 := Imp.go t33 (by omega))); (try (have i_t33 := Imp.go t33 (by omega))); (try (have i_t34 := Imp.go t34 (by omega))); (try (have i_t40 := Imp.go t40 (by omega))); (try (have i_t41 := Imp.go t41 (by omega))); omega)) alL77 (agr.up (agr.up (agr.tr agr.rf ajV6 (by decide) (by decide)) hV29 rfl) hV76 rfl) hMV76 hP hD hS (lv_sub hl [4, 0, 5] rfl)
                      · skip
                        have f82 : 9 < z73.toInt := b_nle rfl (by decide) c74
                        refine lv_iconst (v := 4) hx hb dX12_cutAll_245 (by decide) ?_
                        refine lv_goto (tgt := 250) hx hb dX12_cutAll_246 (by decide) ?_
                        refine va_iast (D := D) (i := y5) (x := 4) hx hb hK hP hD hS 2 1 rfl rfl (i_in (a := y5.toInt) rfl (by first | omega | ((try (have i_t41 := Imp.go t41 (by omega))); (try (have i_t40 := Imp.go t40 (by omega))); (try (have i_t34 := Imp.go t34 (by omega))); (try (have i_t33 := Imp.go t33 (by omega))); (try (have i_t33 := Imp.go t33 (by omega))); (try (have i_t34 := Imp.go t34 (by omega))); (try (have i_t40 := Imp.go t40 (by omega))); (try (have i_t41 := Imp.go t41 (by omega))); omega))) dX12_cutAll_250 (fun H locs hP hD hS => ?_)
                        obtain ⟨V83, hV83⟩ : ∃ z, z = up2 V29 4 (Int32.toNatClampNeg y5) 4 := ⟨_, rfl⟩
                        have hP : va_P D vwCl (mw ad kk ks.1 V83 L7) H := by rw [hV83]; exact hP
                        have hD : va_D A (mw ad kk ks.1 V83 L7) := by rw [hV83]; exact hD
                        have hMV83 : rgd bM V83 := hMV29.put hV83 (i_full _)
                        have agV83 : agr [(0, 2), (0, 3), (0, 7), (0, 8)] [4, 5, 6] V V83 := agV29.up hV83 rfl
                        refine lv_goto (tgt := 279) hx hb dX12_cutAll_251 (by decide) ?_
                        refine lv_aload_n hx hb dX12_cutAll_279 rfl (lv_at hl 5 rfl) ?_
                        refine va_get (D := D) (ci := 12) (v := .ref (ad 6)) (C := RX12) (T := TX12) (N := 100) hx hb hg inX12 hown hK hP 0 rfl rfl 6 (by decide) (hg _ w1712) (fun _ h9 => h9) rfl dX12_cutAll_280 ?_
                        refine lv_iload_n hx hb dX12_cutAll_283 rfl (lv_at hl 4 rfl) ?_
                        refine lv_lload hx hb dX12_cutAll_284 (lv_at hl 0 rfl) ?_
                        refine va_last (D := D) (i := y5) (x := y67) hx hb hK hP hD hS 4 3 rfl rfl (i_in (a := y5.toInt) rfl (by first | omega | ((try (have i_t41 := Imp.go t41 (by omega))); (try (have i_t40 := Imp.go t40 (by omega))); (try (have i_t34 := Imp.go t34 (by omega))); (try (have i_t33 := Imp.go t33 (by omega))); (try (have i_t33 := Imp.go t33 (by omega))); (try (have i_t34 := Imp.go t34 (by omega))); (try (have i_t40 := Imp.go t40 (by omega))); (try (have i_t41 := Imp.go t41 (by omega))); omega))) dX12_cutAll_286 (fun H locs hP hD hS => ?_)
                        obtain ⟨L84, hL84⟩ : ∃ z, z = upL L7 6 (Int32.toNatClampNeg y5) y67 := ⟨_, rfl⟩
                        have hP : va_P D vwCl (mw ad kk ks.1 V83 L84) H := by rw [hL84]; exact hP
                        have hD : va_D A (mw ad kk ks.1 V83 L84) := by rw [hL84]; exact hD
                        have alL84 : agL [4, 5, 6] L L84 := agL.up alL7 hL84 rfl
                        obtain ⟨z85, ez85⟩ : ∃ y : Int32, y = y5 + 1 := ⟨_, rfl⟩
                        have hz85 : z85.toInt = y5.toInt + 1 := i_add ez85 rfl (by decide) (by omega)
                        refine lv_iinc (v := z85) (lv' := [(1, .int z85), (5, .long y67), (4, .int y4), (3, .int (V 1 (Int32.toNatClampNeg y4))), (2, .int y68), (0, .ref (ad 0))]) hx hb dX12_cutAll_287 hl (k := 4) rfl (by rw [ez85]; rfl) (by decide) rfl (fun ls hl => ?_)
                        refine lv_goto (tgt := 17) hx hb dX12_cutAll_290 (by decide) ?_
                        have pq86 : (V83 0 3).toInt = ((V 0 2)).toInt := congrArg Int32.toInt ((up2_o hV83 (by decide)).trans ((up2_o hV29 (by decide)).trans ((ajV6 0 3 rfl).trans ((up2_k hV3 (by decide)).trans (up2_s hV2)))))
                        have kz87 := i_clamp (x := y4) rfl (by omega)
                        have ez : y4.toInt.toNat = Int32.toNatClampNeg y4 := by omega
                        have kz88 := i_clamp (x := y5) rfl (by omega)
                        have hd9 : isDg (V 1 y4.toInt.toNat) := by rw [ez]; exact Imp.go t40 (by omega)
                        have hl0 : y4.toInt.toNat < y68.toInt.toNat := by first | omega | ((try (have i_t41 := Imp.go t41 (by omega))); (try (have i_t40 := Imp.go t40 (by omega))); (try (have i_t34 := Imp.go t34 (by omega))); (try (have i_t33 := Imp.go t33 (by omega))); (try (have i_t33 := Imp.go t33 (by omega))); (try (have i_t34 := Imp.go t34 (by omega))); (try (have i_t40 := Imp.go t40 (by omega))); (try (have i_t41 := Imp.go t41 (by omega))); omega)
                        have hrun : RUN isDg (V 1) (V 0 2).toInt.toNat y4.toInt.toNat y68.toInt.toNat := ⟨hl0, by first | omega | ((try (have i_t41 := Imp.go t41 (by omega))); (try (have i_t40 := Imp.go t40 (by omega))); (try (have i_t34 := Imp.go t34 (by omega))); (try (have i_t33 := Imp.go t33 (by omega))); (try (have i_t33 := Imp.go t33 (by omega))); (try (have i_t34 := Imp.go t34 (by omega))); (try (have i_t40 := Imp.go t40 (by omega))); (try (have i_t41 := Imp.go t41 (by omega))); omega), fun k a b => xlp69_2 k (by omega) (by omega), Or.inl (by first | omega | ((try (have i_t41 := Imp.go t41 (by omega))); (try (have i_t40 := Imp.go t40 (by omega))); (try (have i_t34 := Imp.go t34 (by omega))); (try (have i_t33 := Imp.go t33 (by omega))); (try (have i_t33 := Imp.go t33 (by omega))); (try (have i_t34 := Imp.go t34 (by omega))); (try (have i_t40 := Imp.go t40 (by omega))); (try (have i_t41 := Imp.go t41 (by omega))); omega))⟩
                        exact ihlp8 y68 z85 V83 L84 H locs ls (by first | omega | ((try (have i_t41 := Imp.go t41 (by omega))); (try (have i_t40 := Imp.go t40 (by omega))); (try (have i_t34 := Imp.go t34 (by omega))); (try (have i_t33 := Imp.go t33 (by omega))); (try (have i_t33 := Imp.go t33 (by omega))); (try (have i_t34 := Imp.go t34 (by omega))); (try (have i_t40 := Imp.go t40 (by omega))); (try (have i_t41 := Imp.go t41 (by omega))); omega)) (by first | omega | ((try (have i_t41 := Imp.go t41 (by omega))); (try (have i_t40 := Imp.go t40 (by omega))); (try (have i_t34 := Imp.go t34 (by omega))); (try (have i_t33 := Imp.go t33 (by omega))); (try (have i_t33 := Imp.go t33 (by omega))); (try (have i_t34 := Imp.go t34 (by omega))); (try (have i_t40 := Imp.go t40 (by omega))); (try (have i_t41 := Imp.go t41 (by omega))); omega)) (show z85.toInt ≤ y68.toInt from by first | omega | ((try (have i_t41 := Imp.go t41 (by omega))); (try (have i_t40 := Imp.go t40 (by omega))); (try (have i_t34 := Imp.go t34 (by omega))); (try (have i_t33 := Imp.go t33 (by omega))); (try (have i_t33 := Imp.go t33 (by omega))); (try (have i_t34 := Imp.go t34 (by omega))); (try (have i_t40 := Imp.go t40 (by omega))); (try (have i_t41 := Imp.go t41 (by omega))); omega)) (show y68.toInt ≤ (V83 0 3).toInt from by first | omega | ((try (have i_t41 := Imp.go t41 (by omega))); (try (have i_t40 := Imp.go t40 (by omega))); (try (have i_t34 := Imp.go t34 (by omega))); (try (have i_t33 := Imp.go t33 (by omega))); (try (have i_t33 := Imp.go t33 (by omega))); (try (have i_t34 := Imp.go t34 (by omega))); (try (have i_t40 := Imp.go t40 (by omega))); (try (have i_t41 := Imp.go t41 (by omega))); omega)) (RTq.tk (t := y5.toInt.toNat) (p := y4.toInt.toNat) (e := y68.toInt.toNat) xlp8_2 hV29 hV83 hL84 (by omega) (by first | omega | ((try (have i_t41 := Imp.go t41 (by omega))); (try (have i_t40 := Imp.go t40 (by omega))); (try (have i_t34 := Imp.go t34 (by omega))); (try (have i_t33 := Imp.go t33 (by omega))); (try (have i_t33 := Imp.go t33 (by omega))); (try (have i_t34 := Imp.go t34 (by omega))); (try (have i_t40 := Imp.go t40 (by omega))); (try (have i_t41 := Imp.go t41 (by omega))); omega)) rfl (by omega) (by rw [ez]; unfold isBl; omega) (Or.inl ⟨hd9, hrun⟩) ⟨fun _ => ⟨fun _ => by decide, fun h => absurd h (by first | omega | ((try (have i_t41 := Imp.go t41 (by omega))); (try (have i_t40 := Imp.go t40 (by omega))); (try (have i_t34 := Imp.go t34 (by omega))); (try (have i_t33 := Imp.go t33 (by omega))); (try (have i_t33 := Imp.go t33 (by omega))); (try (have i_t34 := Imp.go t34 (by omega))); (try (have i_t40 := Imp.go t40 (by omega))); (try (have i_t41 := Imp.go t41 (by omega))); omega))⟩, fun q => absurd q (fun q => dg_lt hd9 q), fun q => absurd hd9 q⟩) (by first | omega | ((try (have i_t41 := Imp.go t41 (by omega))); (try (have i_t40 := Imp.go t40 (by omega))); (try (have i_t34 := Imp.go t34 (by omega))); (try (have i_t33 := Imp.go t33 (by omega))); (try (have i_t33 := Imp.go t33 (by omega))); (try (have i_t34 := Imp.go t34 (by omega))); (try (have i_t40 := Imp.go t40 (by omega))); (try (have i_t41 := Imp.go t41 (by omega))); omega)) alL84 (agr.up (agr.up (agr.tr agr.rf ajV6 (by decide) (by decide)) hV29 rfl) hV83 rfl) hMV83 hP hD hS (lv_sub hl [4, 0, 5] rfl)
                    · skip
                      have f89 : y68.toInt < ((V 0 2)).toInt := b_nle rfl rfl c71
                      refine lv_aload_n hx hb dX12_cutAll_179 rfl (lv_at hl 5 rfl) ?_
                      refine va_get (D := D) (ci := 12) (v := .ref (ad 1)) (C := RX12) (T := TX12) (N := 100) hx hb hg inX12 hown hK hP 0 rfl rfl 1 (by decide) (hg _ w1707) (fun _ h9 => h9) rfl dX12_cutAll_180 ?_
                      refine lv_iload_n hx hb dX12_cutAll_183 rfl (lv_at hl 3 rfl) ?_
                      refine va_iald (D := D) (i := y68) hx hb hK hP 1 0 rfl rfl (i_in (a := y68.toInt) rfl (by first | omega | ((try (have i_t41 := Imp.go t41 (by omega))); (try (have i_t40 := Imp.go t40 (by omega))); (try (have i_t34 := Imp.go t34 (by omega))); (try (have i_t33 := Imp.go t33 (by omega))); (try (have i_t33 := Imp.go t33 (by omega))); (try (have i_t34 := Imp.go t34 (by omega))); (try (have i_t40 := Imp.go t40 (by omega))); (try (have i_t41 := Imp.go t41 (by omega))); omega))) dX12_cutAll_184 ?_
                      refine g_top (v := (V 1 (Int32.toNatClampNeg y68))) ((up2_o hV29 (by decide)).trans ((ajV6 1 (Int32.toNatClampNeg y68) rfl).trans ((up2_o hV3 (by decide)).trans (up2_o hV2 (by decide))))) ?_
                      refine gE_int (g_runS (As := [.int (V 1 (Int32.toNatClampNeg y68))]) (rest := []) (wc := []) (tc := []) hx hb hml hown hg gw_self hP hD hK hS hA hnw hgk [] [] (by decide) rfl rfl (s_isDigit l D ks H.size (V 1 (Int32.toNatClampNeg y68)) ) w2015 w2016 w172 w2017 hdS_yX12_isDigit ⟨Nat.le_of_ble_eq_true rfl, Nat.le_of_ble_eq_true rfl⟩ rfl hl.1 rfl (Nat.le_of_ble_eq_true rfl) dX12_cutAll_185 ⟨Nat.le_of_ble_eq_true rfl, Nat.le_of_ble_eq_true rfl⟩) hP hD hK hS hA (fun z90 u91 H locs w92 hP hD hK hS => ?_)
                      obtain ⟨rgz90, t93, t94⟩ := w92
                      have rgz90 : 0 ≤ z90.toInt ∧ z90.toInt ≤ 1 := rgz90
                      have t93 : Imp (z90.toInt = 1) (48 ≤ ((V 1 (Int32.toNatClampNeg y68))).toInt ∧ ((V 1 (Int32.toNatClampNeg y68))).toInt ≤ 57) := t93
                      have t94 : Imp (z90.toInt = 0) (((V 1 (Int32.toNatClampNeg y68))).toInt < 48 ∨ 57 < ((V 1 (Int32.toNatClampNeg y68))).toInt) := t94
                      refine lv_if_eq (tgt := 231) hx hb dX12_cutAll_188 (by decide) (fun c95 => ?_) (fun c95 => ?_)
                      · skip
                        have f96 : z90.toInt = 0 := b_eq rfl (by decide) c95
                        refine lv_aload_n hx hb dX12_cutAll_231 rfl (lv_at hl 5 rfl) ?_
                        refine va_get (D := D) (ci := 12) (v := .ref (ad 4)) (C := RX12) (T := TX12) (N := 100) hx hb hg inX12 hown hK hP 0 rfl rfl 4 (by decide) (hg _ w1710) (fun _ h9 => h9) rfl dX12_cutAll_232 ?_
                        refine lv_iload_n hx hb dX12_cutAll_235 rfl (lv_at hl 4 rfl) ?_
                        refine lv_iload_n hx hb dX12_cutAll_236 rfl (lv_at hl 3 rfl) ?_
                        refine lv_iload hx hb dX12_cutAll_237 (lv_at hl 1 rfl) ?_
                        refine lv_isub hx hb dX12_cutAll_239 ?_
                        refine lv_topi (fun z97 ez97 => ?_)
                        have hz97 : z97.toInt = y68.toInt - y4.toInt := i_sub ez97 rfl rfl (by omega)
                        refine lv_bipush (v := 9) hx hb dX12_cutAll_240 (by decide) ?_
                        refine lv_icmp_le (tgt := 249) hx hb dX12_cutAll_242 (by decide) (fun c98 => ?_) (fun c98 => ?_)
                        · skip
                          have f99 : z97.toInt ≤ 9 := b_le rfl (by decide) c98
                          refine lv_iconst (v := 2) hx hb dX12_cutAll_249 (by decide) ?_
                          refine va_iast (D := D) (i := y5) (x := 2) hx hb hK hP hD hS 2 1 rfl rfl (i_in (a := y5.toInt) rfl (by first | omega | ((try (have i_t94 := Imp.go t94 (by omega))); (try (have i_t93 := Imp.go t93 (by omega))); (try (have i_t41 := Imp.go t41 (by omega))); (try (have i_t40 := Imp.go t40 (by omega))); (try (have i_t34 := Imp.go t34 (by omega))); (try (have i_t33 := Imp.go t33 (by omega))); (try (have i_t33 := Imp.go t33 (by omega))); (try (have i_t34 := Imp.go t34 (by omega))); (try (have i_t40 := Imp.go t40 (by omega))); (try (have i_t41 := Imp.go t41 (by omega))); (try (have i_t93 := Imp.go t93 (by omega))); (try (have i_t94 := Imp.go t94 (by omega))); omega))) dX12_cutAll_250 (fun H locs hP hD hS => ?_)
                          obtain ⟨V100, hV100⟩ : ∃ z, z = up2 V29 4 (Int32.toNatClampNeg y5) 2 := ⟨_, rfl⟩
                          have hP : va_P D vwCl (mw ad kk ks.1 V100 L7) H := by rw [hV100]; exact hP
                          have hD : va_D A (mw ad kk ks.1 V100 L7) := by rw [hV100]; exact hD
                          have hMV100 : rgd bM V100 := hMV29.put hV100 (i_full _)
                          have agV100 : agr [(0, 2), (0, 3), (0, 7), (0, 8)] [4, 5, 6] V V100 := agV29.up hV100 rfl
                          refine lv_goto (tgt := 279) hx hb dX12_cutAll_251 (by decide) ?_
                          refine lv_aload_n hx hb dX12_cutAll_279 rfl (lv_at hl 5 rfl) ?_
                          refine va_get (D := D) (ci := 12) (v := .ref (ad 6)) (C := RX12) (T := TX12) (N := 100) hx hb hg inX12 hown hK hP 0 rfl rfl 6 (by decide) (hg _ w1712) (fun _ h9 => h9) rfl dX12_cutAll_280 ?_
                          refine lv_iload_n hx hb dX12_cutAll_283 rfl (lv_at hl 4 rfl) ?_
                          refine lv_lload hx hb dX12_cutAll_284 (lv_at hl 0 rfl) ?_
                          refine va_last (D := D) (i := y5) (x := y67) hx hb hK hP hD hS 4 3 rfl rfl (i_in (a := y5.toInt) rfl (by first | omega | ((try (have i_t94 := Imp.go t94 (by omega))); (try (have i_t93 := Imp.go t93 (by omega))); (try (have i_t41 := Imp.go t41 (by omega))); (try (have i_t40 := Imp.go t40 (by omega))); (try (have i_t34 := Imp.go t34 (by omega))); (try (have i_t33 := Imp.go t33 (by omega))); (try (have i_t33 := Imp.go t33 (by omega))); (try (have i_t34 := Imp.go t34 (by omega))); (try (have i_t40 := Imp.go t40 (by omega))); (try (have i_t41 := Imp.go t41 (by omega))); (try (have i_t93 := Imp.go t93 (by omega))); (try (have i_t94 := Imp.go t94 (by omega))); omega))) dX12_cutAll_286 (fun H locs hP hD hS => ?_)
                          obtain ⟨L101, hL101⟩ : ∃ z, z = upL L7 6 (Int32.toNatClampNeg y5) y67 := ⟨_, rfl⟩
                          have hP : va_P D vwCl (mw ad kk ks.1 V100 L101) H := by rw [hL101]; exact hP
                          have hD : va_D A (mw ad kk ks.1 V100 L101) := by rw [hL101]; exact hD
                          have alL101 : agL [4, 5, 6] L L101 := agL.up alL7 hL101 rfl
                          obtain ⟨z102, ez102⟩ : ∃ y : Int32, y = y5 + 1 := ⟨_, rfl⟩
                          have hz102 : z102.toInt = y5.toInt + 1 := i_add ez102 rfl (by decide) (by omega)
                          refine lv_iinc (v := z102) (lv' := [(1, .int z102), (5, .long y67), (4, .int y4), (3, .int (V 1 (Int32.toNatClampNeg y4))), (2, .int y68), (0, .ref (ad 0))]) hx hb dX12_cutAll_287 hl (k := 4) rfl (by rw [ez102]; rfl) (by decide) rfl (fun ls hl => ?_)
                          refine lv_goto (tgt := 17) hx hb dX12_cutAll_290 (by decide) ?_
                          have pq103 : (V100 0 3).toInt = ((V 0 2)).toInt := congrArg Int32.toInt ((up2_o hV100 (by decide)).trans ((up2_o hV29 (by decide)).trans ((ajV6 0 3 rfl).trans ((up2_k hV3 (by decide)).trans (up2_s hV2)))))
                          have kz104 := i_clamp (x := y4) rfl (by omega)
                          have ez : y4.toInt.toNat = Int32.toNatClampNeg y4 := by omega
                          have kz105 := i_clamp (x := y5) rfl (by omega)
                          have hd9 : isDg (V 1 y4.toInt.toNat) := by rw [ez]; exact Imp.go t40 (by omega)
                          have kz106 := i_clamp (x := y68) rfl (by omega)
                          have ez2 : y68.toInt.toNat = Int32.toNatClampNeg y68 := by omega
                          have hnd : ¬ isDg (V 1 y68.toInt.toNat) := by rw [ez2]; exact fun z => by have y := Imp.go t94 (by omega); have z1 := z.1; have z2 := z.2; omega
                          have hl0 : y4.toInt.toNat < y68.toInt.toNat := Nat.lt_of_le_of_ne (by omega) (fun h0 => hnd (by rw [← h0]; exact hd9))
                          have hrun : RUN isDg (V 1) (V 0 2).toInt.toNat y4.toInt.toNat y68.toInt.toNat := ⟨hl0, by first | omega | ((try (have i_t94 := Imp.go t94 (by omega))); (try (have i_t93 := Imp.go t93 (by omega))); (try (have i_t41 := Imp.go t41 (by omega))); (try (have i_t40 := Imp.go t40 (by omega))); (try (have i_t34 := Imp.go t34 (by omega))); (try (have i_t33 := Imp.go t33 (by omega))); (try (have i_t33 := Imp.go t33 (by omega))); (try (have i_t34 := Imp.go t34 (by omega))); (try (have i_t40 := Imp.go t40 (by omega))); (try (have i_t41 := Imp.go t41 (by omega))); (try (have i_t93 := Imp.go t93 (by omega))); (try (have i_t94 := Imp.go t94 (by omega))); omega), fun k a b => xlp69_2 k (by omega) (by omega), Or.inr hnd⟩
                          exact ihlp8 y68 z102 V100 L101 H locs ls (by first | omega | ((try (have i_t94 := Imp.go t94 (by omega))); (try (have i_t93 := Imp.go t93 (by omega))); (try (have i_t41 := Imp.go t41 (by omega))); (try (have i_t40 := Imp.go t40 (by omega))); (try (have i_t34 := Imp.go t34 (by omega))); (try (have i_t33 := Imp.go t33 (by omega))); (try (have i_t33 := Imp.go t33 (by omega))); (try (have i_t34 := Imp.go t34 (by omega))); (try (have i_t40 := Imp.go t40 (by omega))); (try (have i_t41 := Imp.go t41 (by omega))); (try (have i_t93 := Imp.go t93 (by omega))); (try (have i_t94 := Imp.go t94 (by omega))); omega)) (by first | omega | ((try (have i_t94 := Imp.go t94 (by omega))); (try (have i_t93 := Imp.go t93 (by omega))); (try (have i_t41 := Imp.go t41 (by omega))); (try (have i_t40 := Imp.go t40 (by omega))); (try (have i_t34 := Imp.go t34 (by omega))); (try (have i_t33 := Imp.go t33 (by omega))); (try (have i_t33 := Imp.go t33 (by omega))); (try (have i_t34 := Imp.go t34 (by omega))); (try (have i_t40 := Imp.go t40 (by omega))); (try (have i_t41 := Imp.go t41 (by omega))); (try (have i_t93 := Imp.go t93 (by omega))); (try (have i_t94 := Imp.go t94 (by omega))); omega)) (show z102.toInt ≤ y68.toInt from by first | omega | ((try (have i_t94 := Imp.go t94 (by omega))); (try (have i_t93 := Imp.go t93 (by omega))); (try (have i_t41 := Imp.go t41 (by omega))); (try (have i_t40 := Imp.go t40 (by omega))); (try (have i_t34 := Imp.go t34 (by omega))); (try (have i_t33 := Imp.go t33 (by omega))); (try (have i_t33 := Imp.go t33 (by omega))); (try (have i_t34 := Imp.go t34 (by omega))); (try (have i_t40 := Imp.go t40 (by omega))); (try (have i_t41 := Imp.go t41 (by omega))); (try (have i_t93 := Imp.go t93 (by omega))); (try (have i_t94 := Imp.go t94 (by omega))); omega)) (show y68.toInt ≤ (V100 0 3).toInt from by first | omega | ((try (have i_t94 := Imp.go t94 (by omega))); (try (have i_t93 := Imp.go t93 (by omega))); (try (have i_t41 := Imp.go t41 (by omega))); (try (have i_t40 := Imp.go t40 (by omega))); (try (have i_t34 := Imp.go t34 (by omega))); (try (have i_t33 := Imp.go t33 (by omega))); (try (have i_t33 := Imp.go t33 (by omega))); (try (have i_t34 := Imp.go t34 (by omega))); (try (have i_t40 := Imp.go t40 (by omega))); (try (have i_t41 := Imp.go t41 (by omega))); (try (have i_t93 := Imp.go t93 (by omega))); (try (have i_t94 := Imp.go t94 (by omega))); omega)) (RTq.tk (t := y5.toInt.toNat) (p := y4.toInt.toNat) (e := y68.toInt.toNat) xlp8_2 hV29 hV100 hL101 (by omega) (by first | omega | ((try (have i_t94 := Imp.go t94 (by omega))); (try (have i_t93 := Imp.go t93 (by omega))); (try (have i_t41 := Imp.go t41 (by omega))); (try (have i_t40 := Imp.go t40 (by omega))); (try (have i_t34 := Imp.go t34 (by omega))); (try (have i_t33 := Imp.go t33 (by omega))); (try (have i_t33 := Imp.go t33 (by omega))); (try (have i_t34 := Imp.go t34 (by omega))); (try (have i_t40 := Imp.go t40 (by omega))); (try (have i_t41 := Imp.go t41 (by omega))); (try (have i_t93 := Imp.go t93 (by omega))); (try (have i_t94 := Imp.go t94 (by omega))); omega)) rfl (by omega) (by rw [ez]; unfold isBl; omega) (Or.inl ⟨hd9, hrun⟩) ⟨fun _ => ⟨fun h => absurd h (by first | omega | ((try (have i_t94 := Imp.go t94 (by omega))); (try (have i_t93 := Imp.go t93 (by omega))); (try (have i_t41 := Imp.go t41 (by omega))); (try (have i_t40 := Imp.go t40 (by omega))); (try (have i_t34 := Imp.go t34 (by omega))); (try (have i_t33 := Imp.go t33 (by omega))); (try (have i_t33 := Imp.go t33 (by omega))); (try (have i_t34 := Imp.go t34 (by omega))); (try (have i_t40 := Imp.go t40 (by omega))); (try (have i_t41 := Imp.go t41 (by omega))); (try (have i_t93 := Imp.go t93 (by omega))); (try (have i_t94 := Imp.go t94 (by omega))); omega)), fun h => ⟨by decide, by have z9 := xlp69_3 (by first | omega | ((try (have i_t94 := Imp.go t94 (by omega))); (try (have i_t93 := Imp.go t93 (by omega))); (try (have i_t41 := Imp.go t41 (by omega))); (try (have i_t40 := Imp.go t40 (by omega))); (try (have i_t34 := Imp.go t34 (by omega))); (try (have i_t33 := Imp.go t33 (by omega))); (try (have i_t33 := Imp.go t33 (by omega))); (try (have i_t34 := Imp.go t34 (by omega))); (try (have i_t40 := Imp.go t40 (by omega))); (try (have i_t41 := Imp.go t41 (by omega))); (try (have i_t93 := Imp.go t93 (by omega))); (try (have i_t94 := Imp.go t94 (by omega))); omega)); rw [show (y68.toInt - y4.toInt).toNat = y68.toInt.toNat - y4.toInt.toNat from by omega] at z9; exact z9⟩⟩, fun q => absurd q (fun q => dg_lt hd9 q), fun q => absurd hd9 q⟩) (by first | omega | ((try (have i_t94 := Imp.go t94 (by omega))); (try (have i_t93 := Imp.go t93 (by omega))); (try (have i_t41 := Imp.go t41 (by omega))); (try (have i_t40 := Imp.go t40 (by omega))); (try (have i_t34 := Imp.go t34 (by omega))); (try (have i_t33 := Imp.go t33 (by omega))); (try (have i_t33 := Imp.go t33 (by omega))); (try (have i_t34 := Imp.go t34 (by omega))); (try (have i_t40 := Imp.go t40 (by omega))); (try (have i_t41 := Imp.go t41 (by omega))); (try (have i_t93 := Imp.go t93 (by omega))); (try (have i_t94 := Imp.go t94 (by omega))); omega)) alL101 (agr.up (agr.up (agr.tr agr.rf ajV6 (by decide) (by decide)) hV29 rfl) hV100 rfl) hMV100 hP hD hS (lv_sub hl [4, 0, 5] rfl)
                        · skip
                          have f107 : 9 < z97.toInt := b_nle rfl (by decide) c98
                          refine lv_iconst (v := 4) hx hb dX12_cutAll_245 (by decide) ?_
                          refine lv_goto (tgt := 250) hx hb dX12_cutAll_246 (by decide) ?_
                          refine va_iast (D := D) (i := y5) (x := 4) hx hb hK hP hD hS 2 1 rfl rfl (i_in (a := y5.toInt) rfl (by first | omega | ((try (have i_t94 := Imp.go t94 (by omega))); (try (have i_t93 := Imp.go t93 (by omega))); (try (have i_t41 := Imp.go t41 (by omega))); (try (have i_t40 := Imp.go t40 (by omega))); (try (have i_t34 := Imp.go t34 (by omega))); (try (have i_t33 := Imp.go t33 (by omega))); (try (have i_t33 := Imp.go t33 (by omega))); (try (have i_t34 := Imp.go t34 (by omega))); (try (have i_t40 := Imp.go t40 (by omega))); (try (have i_t41 := Imp.go t41 (by omega))); (try (have i_t93 := Imp.go t93 (by omega))); (try (have i_t94 := Imp.go t94 (by omega))); omega))) dX12_cutAll_250 (fun H locs hP hD hS => ?_)
                          obtain ⟨V108, hV108⟩ : ∃ z, z = up2 V29 4 (Int32.toNatClampNeg y5) 4 := ⟨_, rfl⟩
                          have hP : va_P D vwCl (mw ad kk ks.1 V108 L7) H := by rw [hV108]; exact hP
                          have hD : va_D A (mw ad kk ks.1 V108 L7) := by rw [hV108]; exact hD
                          have hMV108 : rgd bM V108 := hMV29.put hV108 (i_full _)
                          have agV108 : agr [(0, 2), (0, 3), (0, 7), (0, 8)] [4, 5, 6] V V108 := agV29.up hV108 rfl
                          refine lv_goto (tgt := 279) hx hb dX12_cutAll_251 (by decide) ?_
                          refine lv_aload_n hx hb dX12_cutAll_279 rfl (lv_at hl 5 rfl) ?_
                          refine va_get (D := D) (ci := 12) (v := .ref (ad 6)) (C := RX12) (T := TX12) (N := 100) hx hb hg inX12 hown hK hP 0 rfl rfl 6 (by decide) (hg _ w1712) (fun _ h9 => h9) rfl dX12_cutAll_280 ?_
                          refine lv_iload_n hx hb dX12_cutAll_283 rfl (lv_at hl 4 rfl) ?_
                          refine lv_lload hx hb dX12_cutAll_284 (lv_at hl 0 rfl) ?_
                          refine va_last (D := D) (i := y5) (x := y67) hx hb hK hP hD hS 4 3 rfl rfl (i_in (a := y5.toInt) rfl (by first | omega | ((try (have i_t94 := Imp.go t94 (by omega))); (try (have i_t93 := Imp.go t93 (by omega))); (try (have i_t41 := Imp.go t41 (by omega))); (try (have i_t40 := Imp.go t40 (by omega))); (try (have i_t34 := Imp.go t34 (by omega))); (try (have i_t33 := Imp.go t33 (by omega))); (try (have i_t33 := Imp.go t33 (by omega))); (try (have i_t34 := Imp.go t34 (by omega))); (try (have i_t40 := Imp.go t40 (by omega))); (try (have i_t41 := Imp.go t41 (by omega))); (try (have i_t93 := Imp.go t93 (by omega))); (try (have i_t94 := Imp.go t94 (by omega))); omega))) dX12_cutAll_286 (fun H locs hP hD hS => ?_)
                          obtain ⟨L109, hL109⟩ : ∃ z, z = upL L7 6 (Int32.toNatClampNeg y5) y67 := ⟨_, rfl⟩
                          have hP : va_P D vwCl (mw ad kk ks.1 V108 L109) H := by rw [hL109]; exact hP
                          have hD : va_D A (mw ad kk ks.1 V108 L109) := by rw [hL109]; exact hD
                          have alL109 : agL [4, 5, 6] L L109 := agL.up alL7 hL109 rfl
                          obtain ⟨z110, ez110⟩ : ∃ y : Int32, y = y5 + 1 := ⟨_, rfl⟩
                          have hz110 : z110.toInt = y5.toInt + 1 := i_add ez110 rfl (by decide) (by omega)
                          refine lv_iinc (v := z110) (lv' := [(1, .int z110), (5, .long y67), (4, .int y4), (3, .int (V 1 (Int32.toNatClampNeg y4))), (2, .int y68), (0, .ref (ad 0))]) hx hb dX12_cutAll_287 hl (k := 4) rfl (by rw [ez110]; rfl) (by decide) rfl (fun ls hl => ?_)
                          refine lv_goto (tgt := 17) hx hb dX12_cutAll_290 (by decide) ?_
                          have pq111 : (V108 0 3).toInt = ((V 0 2)).toInt := congrArg Int32.toInt ((up2_o hV108 (by decide)).trans ((up2_o hV29 (by decide)).trans ((ajV6 0 3 rfl).trans ((up2_k hV3 (by decide)).trans (up2_s hV2)))))
                          have kz112 := i_clamp (x := y4) rfl (by omega)
                          have ez : y4.toInt.toNat = Int32.toNatClampNeg y4 := by omega
                          have kz113 := i_clamp (x := y5) rfl (by omega)
                          have hd9 : isDg (V 1 y4.toInt.toNat) := by rw [ez]; exact Imp.go t40 (by omega)
                          have kz114 := i_clamp (x := y68) rfl (by omega)
                          have ez2 : y68.toInt.toNat = Int32.toNatClampNeg y68 := by omega
                          have hnd : ¬ isDg (V 1 y68.toInt.toNat) := by rw [ez2]; exact fun z => by have y := Imp.go t94 (by omega); have z1 := z.1; have z2 := z.2; omega
                          have hl0 : y4.toInt.toNat < y68.toInt.toNat := Nat.lt_of_le_of_ne (by omega) (fun h0 => hnd (by rw [← h0]; exact hd9))
                          have hrun : RUN isDg (V 1) (V 0 2).toInt.toNat y4.toInt.toNat y68.toInt.toNat := ⟨hl0, by first | omega | ((try (have i_t94 := Imp.go t94 (by omega))); (try (have i_t93 := Imp.go t93 (by omega))); (try (have i_t41 := Imp.go t41 (by omega))); (try (have i_t40 := Imp.go t40 (by omega))); (try (have i_t34 := Imp.go t34 (by omega))); (try (have i_t33 := Imp.go t33 (by omega))); (try (have i_t33 := Imp.go t33 (by omega))); (try (have i_t34 := Imp.go t34 (by omega))); (try (have i_t40 := Imp.go t40 (by omega))); (try (have i_t41 := Imp.go t41 (by omega))); (try (have i_t93 := Imp.go t93 (by omega))); (try (have i_t94 := Imp.go t94 (by omega))); omega), fun k a b => xlp69_2 k (by omega) (by omega), Or.inr hnd⟩
                          exact ihlp8 y68 z110 V108 L109 H locs ls (by first | omega | ((try (have i_t94 := Imp.go t94 (by omega))); (try (have i_t93 := Imp.go t93 (by omega))); (try (have i_t41 := Imp.go t41 (by omega))); (try (have i_t40 := Imp.go t40 (by omega))); (try (have i_t34 := Imp.go t34 (by omega))); (try (have i_t33 := Imp.go t33 (by omega))); (try (have i_t33 := Imp.go t33 (by omega))); (try (have i_t34 := Imp.go t34 (by omega))); (try (have i_t40 := Imp.go t40 (by omega))); (try (have i_t41 := Imp.go t41 (by omega))); (try (have i_t93 := Imp.go t93 (by omega))); (try (have i_t94 := Imp.go t94 (by omega))); omega)) (by first | omega | ((try (have i_t94 := Imp.go t94 (by omega))); (try (have i_t93 := Imp.go t93 (by omega))); (try (have i_t41 := Imp.go t41 (by omega))); (try (have i_t40 := Imp.go t40 (by omega))); (try (have i_t34 := Imp.go t34 (by omega))); (try (have i_t33 := Imp.go t33 (by omega))); (try (have i_t33 := Imp.go t33 (by omega))); (try (have i_t34 := Imp.go t34 (by omega))); (try (have i_t40 := Imp.go t40 (by omega))); (try (have i_t41 := Imp.go t41 (by omega))); (try (have i_t93 := Imp.go t93 (by omega))); (try (have i_t94 := Imp.go t94 (by omega))); omega)) (show z110.toInt ≤ y68.toInt from by first | omega | ((try (have i_t94 := Imp.go t94 (by omega))); (try (have i_t93 := Imp.go t93 (by omega))); (try (have i_t41 := Imp.go t41 (by omega))); (try (have i_t40 := Imp.go t40 (by omega))); (try (have i_t34 := Imp.go t34 (by omega))); (try (have i_t33 := Imp.go t33 (by omega))); (try (have i_t33 := Imp.go t33 (by omega))); (try (have i_t34 := Imp.go t34 (by omega))); (try (have i_t40 := Imp.go t40 (by omega))); (try (have i_t41 := Imp.go t41 (by omega))); (try (have i_t93 := Imp.go t93 (by omega))); (try (have i_t94 := Imp.go t94 (by omega))); omega)) (show y68.toInt ≤ (V108 0 3).toInt from by first | omega | ((try (have i_t94 := Imp.go t94 (by omega))); (try (have i_t93 := Imp.go t93 (by omega))); (try (have i_t41 := Imp.go t41 (by omega))); (try (have i_t40 := Imp.go t40 (by omega))); (try (have i_t34 := Imp.go t34 (by omega))); (try (have i_t33 := Imp.go t33 (by omega))); (try (have i_t33 := Imp.go t33 (by omega))); (try (have i_t34 := Imp.go t34 (by omega))); (try (have i_t40 := Imp.go t40 (by omega))); (try (have i_t41 := Imp.go t41 (by omega))); (try (have i_t93 := Imp.go t93 (by omega))); (try (have i_t94 := Imp.go t94 (by omega))); omega)) (RTq.tk (t := y5.toInt.toNat) (p := y4.toInt.toNat) (e := y68.toInt.toNat) xlp8_2 hV29 hV108 hL109 (by omega) (by first | omega | ((try (have i_t94 := Imp.go t94 (by omega))); (try (have i_t93 := Imp.go t93 (by omega))); (try (have i_t41 := Imp.go t41 (by omega))); (try (have i_t40 := Imp.go t40 (by omega))); (try (have i_t34 := Imp.go t34 (by omega))); (try (have i_t33 := Imp.go t33 (by omega))); (try (have i_t33 := Imp.go t33 (by omega))); (try (have i_t34 := Imp.go t34 (by omega))); (try (have i_t40 := Imp.go t40 (by omega))); (try (have i_t41 := Imp.go t41 (by omega))); (try (have i_t93 := Imp.go t93 (by omega))); (try (have i_t94 := Imp.go t94 (by omega))); omega)) rfl (by omega) (by rw [ez]; unfold isBl; omega) (Or.inl ⟨hd9, hrun⟩) ⟨fun _ => ⟨fun _ => by decide, fun h => absurd h (by first | omega | ((try (have i_t94 := Imp.go t94 (by omega))); (try (have i_t93 := Imp.go t93 (by omega))); (try (have i_t41 := Imp.go t41 (by omega))); (try (have i_t40 := Imp.go t40 (by omega))); (try (have i_t34 := Imp.go t34 (by omega))); (try (have i_t33 := Imp.go t33 (by omega))); (try (have i_t33 := Imp.go t33 (by omega))); (try (have i_t34 := Imp.go t34 (by omega))); (try (have i_t40 := Imp.go t40 (by omega))); (try (have i_t41 := Imp.go t41 (by omega))); (try (have i_t93 := Imp.go t93 (by omega))); (try (have i_t94 := Imp.go t94 (by omega))); omega))⟩, fun q => absurd q (fun q => dg_lt hd9 q), fun q => absurd hd9 q⟩) (by first | omega | ((try (have i_t94 := Imp.go t94 (by omega))); (try (have i_t93 := Imp.go t93 (by omega))); (try (have i_t41 := Imp.go t41 (by omega))); (try (have i_t40 := Imp.go t40 (by omega))); (try (have i_t34 := Imp.go t34 (by omega))); (try (have i_t33 := Imp.go t33 (by omega))); (try (have i_t33 := Imp.go t33 (by omega))); (try (have i_t34 := Imp.go t34 (by omega))); (try (have i_t40 := Imp.go t40 (by omega))); (try (have i_t41 := Imp.go t41 (by omega))); (try (have i_t93 := Imp.go t93 (by omega))); (try (have i_t94 := Imp.go t94 (by omega))); omega)) alL109 (agr.up (agr.up (agr.tr agr.rf ajV6 (by decide) (by decide)) hV29 rfl) hV108 rfl) hMV108 hP hD hS (lv_sub hl [4, 0, 5] rfl)
                      · skip
                        have f115 : z90.toInt ≠ 0 := b_neq rfl (by decide) c95
                        refine lv_iload_n hx hb dX12_cutAll_191 rfl (lv_at hl 3 rfl) ?_
                        refine lv_iload hx hb dX12_cutAll_192 (lv_at hl 1 rfl) ?_
                        refine lv_isub hx hb dX12_cutAll_194 ?_
                        refine lv_topi (fun z116 ez116 => ?_)
                        have hz116 : z116.toInt = y68.toInt - y4.toInt := i_sub ez116 rfl rfl (by omega)
                        refine lv_bipush (v := 9) hx hb dX12_cutAll_195 (by decide) ?_
                        refine lv_icmp_ge (tgt := 221) hx hb dX12_cutAll_197 (by decide) (fun c117 => ?_) (fun c117 => ?_)
                        · skip
                          have f118 : 9 ≤ z116.toInt := b_le (by decide) rfl c117
                          refine lv_lload hx hb dX12_cutAll_221 (lv_at hl 0 rfl) ?_
                          refine lv_lstore (lv' := [(5, .long y67), (4, .int y4), (3, .int (V 1 (Int32.toNatClampNeg y4))), (2, .int y68), (1, .int y5), (0, .ref (ad 0))]) hx hb dX12_cutAll_223 hl (by decide) rfl (fun ls hl => ?_)
                          obtain ⟨z119, ez119⟩ : ∃ y : Int32, y = y68 + 1 := ⟨_, rfl⟩
                          have hz119 : z119.toInt = y68.toInt + 1 := i_add ez119 rfl (by decide) (by omega)
                          refine lv_iinc (v := z119) (lv' := [(2, .int z119), (5, .long y67), (4, .int y4), (3, .int (V 1 (Int32.toNatClampNeg y4))), (1, .int y5), (0, .ref (ad 0))]) hx hb dX12_cutAll_225 hl (k := 3) rfl (by rw [ez119]; rfl) (by decide) rfl (fun ls hl => ?_)
                          refine lv_goto (tgt := 171) hx hb dX12_cutAll_228 (by decide) ?_
                          have kz120 := i_clamp (x := y68) rfl (by omega)
                          have hld : isDg (V 1 (Int32.toNatClampNeg y68)) := Imp.go t93 (by omega)
                          exact ihlp69 y67 z119 H locs ls (by first | omega | ((try (have i_t94 := Imp.go t94 (by omega))); (try (have i_t93 := Imp.go t93 (by omega))); (try (have i_t41 := Imp.go t41 (by omega))); (try (have i_t40 := Imp.go t40 (by omega))); (try (have i_t34 := Imp.go t34 (by omega))); (try (have i_t33 := Imp.go t33 (by omega))); (try (have i_t33 := Imp.go t33 (by omega))); (try (have i_t34 := Imp.go t34 (by omega))); (try (have i_t40 := Imp.go t40 (by omega))); (try (have i_t41 := Imp.go t41 (by omega))); (try (have i_t93 := Imp.go t93 (by omega))); (try (have i_t94 := Imp.go t94 (by omega))); omega)) (show y4.toInt ≤ z119.toInt from by first | omega | ((try (have i_t94 := Imp.go t94 (by omega))); (try (have i_t93 := Imp.go t93 (by omega))); (try (have i_t41 := Imp.go t41 (by omega))); (try (have i_t40 := Imp.go t40 (by omega))); (try (have i_t34 := Imp.go t34 (by omega))); (try (have i_t33 := Imp.go t33 (by omega))); (try (have i_t33 := Imp.go t33 (by omega))); (try (have i_t34 := Imp.go t34 (by omega))); (try (have i_t40 := Imp.go t40 (by omega))); (try (have i_t41 := Imp.go t41 (by omega))); (try (have i_t93 := Imp.go t93 (by omega))); (try (have i_t94 := Imp.go t94 (by omega))); omega)) (show z119.toInt ≤ (V29 0 3).toInt from by first | omega | ((try (have i_t94 := Imp.go t94 (by omega))); (try (have i_t93 := Imp.go t93 (by omega))); (try (have i_t41 := Imp.go t41 (by omega))); (try (have i_t40 := Imp.go t40 (by omega))); (try (have i_t34 := Imp.go t34 (by omega))); (try (have i_t33 := Imp.go t33 (by omega))); (try (have i_t33 := Imp.go t33 (by omega))); (try (have i_t34 := Imp.go t34 (by omega))); (try (have i_t40 := Imp.go t40 (by omega))); (try (have i_t41 := Imp.go t41 (by omega))); (try (have i_t93 := Imp.go t93 (by omega))); (try (have i_t94 := Imp.go t94 (by omega))); omega)) (fun k a b => by by_cases c : (k : Int) < y68.toInt; exact xlp69_2 k a c; have ek : k = Int32.toNatClampNeg y68 := (by first | omega | ((try (have i_t94 := Imp.go t94 (by omega))); (try (have i_t93 := Imp.go t93 (by omega))); (try (have i_t41 := Imp.go t41 (by omega))); (try (have i_t40 := Imp.go t40 (by omega))); (try (have i_t34 := Imp.go t34 (by omega))); (try (have i_t33 := Imp.go t33 (by omega))); (try (have i_t33 := Imp.go t33 (by omega))); (try (have i_t34 := Imp.go t34 (by omega))); (try (have i_t40 := Imp.go t40 (by omega))); (try (have i_t41 := Imp.go t41 (by omega))); (try (have i_t93 := Imp.go t93 (by omega))); (try (have i_t94 := Imp.go t94 (by omega))); omega)); rw [ek]; exact hld) (fun h9 => absurd h9 (by first | omega | ((try (have i_t94 := Imp.go t94 (by omega))); (try (have i_t93 := Imp.go t93 (by omega))); (try (have i_t41 := Imp.go t41 (by omega))); (try (have i_t40 := Imp.go t40 (by omega))); (try (have i_t34 := Imp.go t34 (by omega))); (try (have i_t33 := Imp.go t33 (by omega))); (try (have i_t33 := Imp.go t33 (by omega))); (try (have i_t34 := Imp.go t34 (by omega))); (try (have i_t40 := Imp.go t40 (by omega))); (try (have i_t41 := Imp.go t41 (by omega))); (try (have i_t93 := Imp.go t93 (by omega))); (try (have i_t94 := Imp.go t94 (by omega))); omega))) (by first | omega | ((try (have i_t94 := Imp.go t94 (by omega))); (try (have i_t93 := Imp.go t93 (by omega))); (try (have i_t41 := Imp.go t41 (by omega))); (try (have i_t40 := Imp.go t40 (by omega))); (try (have i_t34 := Imp.go t34 (by omega))); (try (have i_t33 := Imp.go t33 (by omega))); (try (have i_t33 := Imp.go t33 (by omega))); (try (have i_t34 := Imp.go t34 (by omega))); (try (have i_t40 := Imp.go t40 (by omega))); (try (have i_t41 := Imp.go t41 (by omega))); (try (have i_t93 := Imp.go t93 (by omega))); (try (have i_t94 := Imp.go t94 (by omega))); omega)) hP hD hS (lv_sub hl [1, 2, 3, 0, 4, 5] rfl)
                        · skip
                          have f121 : z116.toInt < 9 := b_nle (by decide) rfl c117
                          refine lv_ldc2 (v := 10) hx hb hown (hg _ w2018) dX12_cutAll_200 ?_
                          refine lv_lload hx hb dX12_cutAll_203 (lv_at hl 0 rfl) ?_
                          refine lv_lmul hx hb dX12_cutAll_205 ?_
                          refine lv_topl (fun w122 ew122 => ?_)
                          refine lv_aload_n hx hb dX12_cutAll_206 rfl (lv_at hl 5 rfl) ?_
                          refine va_get (D := D) (ci := 12) (v := .ref (ad 1)) (C := RX12) (T := TX12) (N := 100) hx hb hg inX12 hown hK hP 0 rfl rfl 1 (by decide) (hg _ w1707) (fun _ h9 => h9) rfl dX12_cutAll_207 ?_
                          refine lv_iload_n hx hb dX12_cutAll_210 rfl (lv_at hl 3 rfl) ?_
                          refine va_iald (D := D) (i := y68) hx hb hK hP 1 0 rfl rfl (i_in (a := y68.toInt) rfl (by first | omega | ((try (have i_t94 := Imp.go t94 (by omega))); (try (have i_t93 := Imp.go t93 (by omega))); (try (have i_t41 := Imp.go t41 (by omega))); (try (have i_t40 := Imp.go t40 (by omega))); (try (have i_t34 := Imp.go t34 (by omega))); (try (have i_t33 := Imp.go t33 (by omega))); (try (have i_t33 := Imp.go t33 (by omega))); (try (have i_t34 := Imp.go t34 (by omega))); (try (have i_t40 := Imp.go t40 (by omega))); (try (have i_t41 := Imp.go t41 (by omega))); (try (have i_t93 := Imp.go t93 (by omega))); (try (have i_t94 := Imp.go t94 (by omega))); omega))) dX12_cutAll_211 ?_
                          refine g_top (v := (V 1 (Int32.toNatClampNeg y68))) ((up2_o hV29 (by decide)).trans ((ajV6 1 (Int32.toNatClampNeg y68) rfl).trans ((up2_o hV3 (by decide)).trans (up2_o hV2 (by decide))))) ?_
                          refine lv_i2l hx hb dX12_cutAll_212 rfl ?_
                          refine lv_topl (fun w123 ew123 => ?_)
                          refine lv_ladd hx hb dX12_cutAll_213 ?_
                          refine lv_topl (fun w124 ew124 => ?_)
                          refine lv_ldc2 (v := 48) hx hb hown (hg _ w2019) dX12_cutAll_214 ?_
                          refine lv_lsub hx hb dX12_cutAll_217 ?_
                          refine lv_topl (fun w125 ew125 => ?_)
                          refine lv_goto (tgt := 223) hx hb dX12_cutAll_218 (by decide) ?_
                          refine lv_lstore (lv' := [(5, .long w125), (4, .int y4), (3, .int (V 1 (Int32.toNatClampNeg y4))), (2, .int y68), (1, .int y5), (0, .ref (ad 0))]) hx hb dX12_cutAll_223 hl (by decide) rfl (fun ls hl => ?_)
                          obtain ⟨z126, ez126⟩ : ∃ y : Int32, y = y68 + 1 := ⟨_, rfl⟩
                          have hz126 : z126.toInt = y68.toInt + 1 := i_add ez126 rfl (by decide) (by omega)
                          refine lv_iinc (v := z126) (lv' := [(2, .int z126), (5, .long w125), (4, .int y4), (3, .int (V 1 (Int32.toNatClampNeg y4))), (1, .int y5), (0, .ref (ad 0))]) hx hb dX12_cutAll_225 hl (k := 3) rfl (by rw [ez126]; rfl) (by decide) rfl (fun ls hl => ?_)
                          refine lv_goto (tgt := 171) hx hb dX12_cutAll_228 (by decide) ?_
                          have kz127 := i_clamp (x := y68) rfl (by omega)
                          have hld : isDg (V 1 (Int32.toNatClampNeg y68)) := Imp.go t93 (by omega)
                          exact ihlp69 w125 z126 H locs ls (by first | omega | ((try (have i_t94 := Imp.go t94 (by omega))); (try (have i_t93 := Imp.go t93 (by omega))); (try (have i_t41 := Imp.go t41 (by omega))); (try (have i_t40 := Imp.go t40 (by omega))); (try (have i_t34 := Imp.go t34 (by omega))); (try (have i_t33 := Imp.go t33 (by omega))); (try (have i_t33 := Imp.go t33 (by omega))); (try (have i_t34 := Imp.go t34 (by omega))); (try (have i_t40 := Imp.go t40 (by omega))); (try (have i_t41 := Imp.go t41 (by omega))); (try (have i_t93 := Imp.go t93 (by omega))); (try (have i_t94 := Imp.go t94 (by omega))); omega)) (show y4.toInt ≤ z126.toInt from by first | omega | ((try (have i_t94 := Imp.go t94 (by omega))); (try (have i_t93 := Imp.go t93 (by omega))); (try (have i_t41 := Imp.go t41 (by omega))); (try (have i_t40 := Imp.go t40 (by omega))); (try (have i_t34 := Imp.go t34 (by omega))); (try (have i_t33 := Imp.go t33 (by omega))); (try (have i_t33 := Imp.go t33 (by omega))); (try (have i_t34 := Imp.go t34 (by omega))); (try (have i_t40 := Imp.go t40 (by omega))); (try (have i_t41 := Imp.go t41 (by omega))); (try (have i_t93 := Imp.go t93 (by omega))); (try (have i_t94 := Imp.go t94 (by omega))); omega)) (show z126.toInt ≤ (V29 0 3).toInt from by first | omega | ((try (have i_t94 := Imp.go t94 (by omega))); (try (have i_t93 := Imp.go t93 (by omega))); (try (have i_t41 := Imp.go t41 (by omega))); (try (have i_t40 := Imp.go t40 (by omega))); (try (have i_t34 := Imp.go t34 (by omega))); (try (have i_t33 := Imp.go t33 (by omega))); (try (have i_t33 := Imp.go t33 (by omega))); (try (have i_t34 := Imp.go t34 (by omega))); (try (have i_t40 := Imp.go t40 (by omega))); (try (have i_t41 := Imp.go t41 (by omega))); (try (have i_t93 := Imp.go t93 (by omega))); (try (have i_t94 := Imp.go t94 (by omega))); omega)) (fun k a b => by by_cases c : (k : Int) < y68.toInt; exact xlp69_2 k a c; have ek : k = Int32.toNatClampNeg y68 := (by first | omega | ((try (have i_t94 := Imp.go t94 (by omega))); (try (have i_t93 := Imp.go t93 (by omega))); (try (have i_t41 := Imp.go t41 (by omega))); (try (have i_t40 := Imp.go t40 (by omega))); (try (have i_t34 := Imp.go t34 (by omega))); (try (have i_t33 := Imp.go t33 (by omega))); (try (have i_t33 := Imp.go t33 (by omega))); (try (have i_t34 := Imp.go t34 (by omega))); (try (have i_t40 := Imp.go t40 (by omega))); (try (have i_t41 := Imp.go t41 (by omega))); (try (have i_t93 := Imp.go t93 (by omega))); (try (have i_t94 := Imp.go t94 (by omega))); omega)); rw [ek]; exact hld) (fun h9 => by rw [show (z126.toInt - y4.toInt).toNat = (y68.toInt - y4.toInt).toNat + 1 from by first | omega | ((try (have i_t94 := Imp.go t94 (by omega))); (try (have i_t93 := Imp.go t93 (by omega))); (try (have i_t41 := Imp.go t41 (by omega))); (try (have i_t40 := Imp.go t40 (by omega))); (try (have i_t34 := Imp.go t34 (by omega))); (try (have i_t33 := Imp.go t33 (by omega))); (try (have i_t33 := Imp.go t33 (by omega))); (try (have i_t34 := Imp.go t34 (by omega))); (try (have i_t40 := Imp.go t40 (by omega))); (try (have i_t41 := Imp.go t41 (by omega))); (try (have i_t93 := Imp.go t93 (by omega))); (try (have i_t94 := Imp.go t94 (by omega))); omega), nv_s, ← xlp69_3 (by first | omega | ((try (have i_t94 := Imp.go t94 (by omega))); (try (have i_t93 := Imp.go t93 (by omega))); (try (have i_t41 := Imp.go t41 (by omega))); (try (have i_t40 := Imp.go t40 (by omega))); (try (have i_t34 := Imp.go t34 (by omega))); (try (have i_t33 := Imp.go t33 (by omega))); (try (have i_t33 := Imp.go t33 (by omega))); (try (have i_t34 := Imp.go t34 (by omega))); (try (have i_t40 := Imp.go t40 (by omega))); (try (have i_t41 := Imp.go t41 (by omega))); (try (have i_t93 := Imp.go t93 (by omega))); (try (have i_t94 := Imp.go t94 (by omega))); omega)), show y4.toInt.toNat + (y68.toInt - y4.toInt).toNat = Int32.toNatClampNeg y68 from by first | omega | ((try (have i_t94 := Imp.go t94 (by omega))); (try (have i_t93 := Imp.go t93 (by omega))); (try (have i_t41 := Imp.go t41 (by omega))); (try (have i_t40 := Imp.go t40 (by omega))); (try (have i_t34 := Imp.go t34 (by omega))); (try (have i_t33 := Imp.go t33 (by omega))); (try (have i_t33 := Imp.go t33 (by omega))); (try (have i_t34 := Imp.go t34 (by omega))); (try (have i_t40 := Imp.go t40 (by omega))); (try (have i_t41 := Imp.go t41 (by omega))); (try (have i_t93 := Imp.go t93 (by omega))); (try (have i_t94 := Imp.go t94 (by omega))); omega)]; exact ew125.trans (by rw [ew124, ew122, ew123, Int64.mul_comm])) (by first | omega | ((try (have i_t94 := Imp.go t94 (by omega))); (try (have i_t93 := Imp.go t93 (by omega))); (try (have i_t41 := Imp.go t41 (by omega))); (try (have i_t40 := Imp.go t40 (by omega))); (try (have i_t34 := Imp.go t34 (by omega))); (try (have i_t33 := Imp.go t33 (by omega))); (try (have i_t33 := Imp.go t33 (by omega))); (try (have i_t34 := Imp.go t34 (by omega))); (try (have i_t40 := Imp.go t40 (by omega))); (try (have i_t41 := Imp.go t41 (by omega))); (try (have i_t93 := Imp.go t93 (by omega))); (try (have i_t94 := Imp.go t94 (by omega))); omega)) hP hD hS (lv_sub hl [1, 2, 3, 0, 4, 5] rfl)
                have pq128 : (V29 0 3).toInt = ((V 0 2)).toInt := congrArg Int32.toInt ((up2_o hV29 (by decide)).trans ((ajV6 0 3 rfl).trans ((up2_k hV3 (by decide)).trans (up2_s hV2))))
                exact lp69 (((V29 0 3).toInt - y4.toInt + 1 : Int).toNat) 0 y4 H locs ls (by first | omega | ((try (have i_t41 := Imp.go t41 (by omega))); (try (have i_t40 := Imp.go t40 (by omega))); (try (have i_t34 := Imp.go t34 (by omega))); (try (have i_t33 := Imp.go t33 (by omega))); (try (have i_t33 := Imp.go t33 (by omega))); (try (have i_t34 := Imp.go t34 (by omega))); (try (have i_t40 := Imp.go t40 (by omega))); (try (have i_t41 := Imp.go t41 (by omega))); omega)) (show y4.toInt ≤ y4.toInt from by first | omega | ((try (have i_t41 := Imp.go t41 (by omega))); (try (have i_t40 := Imp.go t40 (by omega))); (try (have i_t34 := Imp.go t34 (by omega))); (try (have i_t33 := Imp.go t33 (by omega))); (try (have i_t33 := Imp.go t33 (by omega))); (try (have i_t34 := Imp.go t34 (by omega))); (try (have i_t40 := Imp.go t40 (by omega))); (try (have i_t41 := Imp.go t41 (by omega))); omega)) (show y4.toInt ≤ (V29 0 3).toInt from by first | omega | ((try (have i_t41 := Imp.go t41 (by omega))); (try (have i_t40 := Imp.go t40 (by omega))); (try (have i_t34 := Imp.go t34 (by omega))); (try (have i_t33 := Imp.go t33 (by omega))); (try (have i_t33 := Imp.go t33 (by omega))); (try (have i_t34 := Imp.go t34 (by omega))); (try (have i_t40 := Imp.go t40 (by omega))); (try (have i_t41 := Imp.go t41 (by omega))); omega)) (fun k a b => absurd a (by omega)) (fun _ => by rw [show (y4.toInt - y4.toInt).toNat = 0 from by omega]; rfl) (by first | omega | ((try (have i_t41 := Imp.go t41 (by omega))); (try (have i_t40 := Imp.go t40 (by omega))); (try (have i_t34 := Imp.go t34 (by omega))); (try (have i_t33 := Imp.go t33 (by omega))); (try (have i_t33 := Imp.go t33 (by omega))); (try (have i_t34 := Imp.go t34 (by omega))); (try (have i_t40 := Imp.go t40 (by omega))); (try (have i_t41 := Imp.go t41 (by omega))); omega)) hP hD hS (lv_sub hl [0, 1, 2, 3, 4, 5] rfl)
            · skip
              have f129 : z30.toInt ≠ 0 := b_neq rfl (by decide) c35
              have lp132 : ∀ (fulp132 : Nat) (y130 : Int64) (y131 : Int32) (H : Heap) (locs : List Loc) (ls : Array Slot), 0 ≤ y131.toInt ∧ y131.toInt ≤ 4000 → y4.toInt ≤ y131.toInt → y131.toInt ≤ (V29 0 3).toInt → (∀ k : Nat, y4.toInt ≤ (k : Int) → (k : Int) < y131.toInt → isLD (V 1 k)) → (y131.toInt - y4.toInt ≤ 12 → y130 = wv (V 1) (y4.toInt).toNat (y131.toInt - y4.toInt).toNat) → (V29 0 3).toInt - y131.toInt < (fulp132 : Int) → va_P D vwCl (mw ad kk ks.1 V29 L7) H → va_D A (mw ad kk ks.1 V29 L7) → va_S A s.heap H locs → lv_has ls 7 [(5, .long y130), (4, .int y4), (3, .int (V 1 (Int32.toNatClampNeg y4))), (2, .int y131), (1, .int y5), (0, .ref (ad 0))] → W p l e r_s_cutAll2 s m ([.ref (ad 0)] : List Value).toArray below meth c H locs 0 0 (MQ below (q_s_cutAll2 D ks ad kk V L  A) ([.ref (ad 0)] : List Value).toArray s 0 0 A) (F0 m 70 ls []) := by
                intro fulp132
                induction fulp132 with
                | zero =>
                  intro y130 y131 H locs ls klp132_0 xlp132_0 xlp132_1 xlp132_2 xlp132_3 hn  hP hD hS hl
                  exfalso; omega
                | succ fulp132 ihlp132 =>
                  intro y130 y131 H locs ls klp132_0 xlp132_0 xlp132_1 xlp132_2 xlp132_3 hn  hP hD hS hl
                  have pq133 : (V29 0 3).toInt = ((V 0 2)).toInt := congrArg Int32.toInt ((up2_o hV29 (by decide)).trans ((ajV6 0 3 rfl).trans ((up2_k hV3 (by decide)).trans (up2_s hV2))))
                  refine lv_iload_n hx hb dX12_cutAll_70 rfl (lv_at hl 3 rfl) ?_
                  refine lv_aload_n hx hb dX12_cutAll_71 rfl (lv_at hl 5 rfl) ?_
                  refine va_get (D := D) (ci := 12) (v := .int (V29 0 3)) (C := RX12) (T := TX12) (N := 100) hx hb hg inX12 hown hK hP 0 rfl rfl 3 (by decide) (hg _ w1709) (fun _ h9 => h9) rfl dX12_cutAll_72 ?_
                  refine g_top (v := (V 0 2)) ((up2_o hV29 (by decide)).trans ((ajV6 0 3 rfl).trans ((up2_k hV3 (by decide)).trans (up2_s hV2)))) ?_
                  refine lv_icmp_ge (tgt := 141) hx hb dX12_cutAll_75 (by decide) (fun c134 => ?_) (fun c134 => ?_)
                  · skip
                    have f135 : ((V 0 2)).toInt ≤ y131.toInt := b_le rfl rfl c134
                    refine lv_aload_n hx hb dX12_cutAll_141 rfl (lv_at hl 5 rfl) ?_
                    refine va_get (D := D) (ci := 12) (v := .ref (ad 4)) (C := RX12) (T := TX12) (N := 100) hx hb hg inX12 hown hK hP 0 rfl rfl 4 (by decide) (hg _ w1710) (fun _ h9 => h9) rfl dX12_cutAll_142 ?_
                    refine lv_iload_n hx hb dX12_cutAll_145 rfl (lv_at hl 4 rfl) ?_
                    refine lv_iload_n hx hb dX12_cutAll_146 rfl (lv_at hl 3 rfl) ?_
                    refine lv_iload hx hb dX12_cutAll_147 (lv_at hl 1 rfl) ?_
                    refine lv_isub hx hb dX12_cutAll_149 ?_
                    refine lv_topi (fun z136 ez136 => ?_)
                    have hz136 : z136.toInt = y131.toInt - y4.toInt := i_sub ez136 rfl rfl (by omega)
                    refine lv_bipush (v := 12) hx hb dX12_cutAll_150 (by decide) ?_
                    refine lv_icmp_le (tgt := 159) hx hb dX12_cutAll_152 (by decide) (fun c137 => ?_) (fun c137 => ?_)
                    · skip
                      have f138 : z136.toInt ≤ 12 := b_le rfl (by decide) c137
                      refine lv_iconst (v := 1) hx hb dX12_cutAll_159 (by decide) ?_
                      refine va_iast (D := D) (i := y5) (x := 1) hx hb hK hP hD hS 2 1 rfl rfl (i_in (a := y5.toInt) rfl (by first | omega | ((try (have i_t34 := Imp.go t34 (by omega))); (try (have i_t33 := Imp.go t33 (by omega))); (try (have i_t33 := Imp.go t33 (by omega))); (try (have i_t34 := Imp.go t34 (by omega))); omega))) dX12_cutAll_160 (fun H locs hP hD hS => ?_)
                      obtain ⟨V139, hV139⟩ : ∃ z, z = up2 V29 4 (Int32.toNatClampNeg y5) 1 := ⟨_, rfl⟩
                      have hP : va_P D vwCl (mw ad kk ks.1 V139 L7) H := by rw [hV139]; exact hP
                      have hD : va_D A (mw ad kk ks.1 V139 L7) := by rw [hV139]; exact hD
                      have hMV139 : rgd bM V139 := hMV29.put hV139 (i_full _)
                      have agV139 : agr [(0, 2), (0, 3), (0, 7), (0, 8)] [4, 5, 6] V V139 := agV29.up hV139 rfl
                      refine lv_goto (tgt := 279) hx hb dX12_cutAll_161 (by decide) ?_
                      refine lv_aload_n hx hb dX12_cutAll_279 rfl (lv_at hl 5 rfl) ?_
                      refine va_get (D := D) (ci := 12) (v := .ref (ad 6)) (C := RX12) (T := TX12) (N := 100) hx hb hg inX12 hown hK hP 0 rfl rfl 6 (by decide) (hg _ w1712) (fun _ h9 => h9) rfl dX12_cutAll_280 ?_
                      refine lv_iload_n hx hb dX12_cutAll_283 rfl (lv_at hl 4 rfl) ?_
                      refine lv_lload hx hb dX12_cutAll_284 (lv_at hl 0 rfl) ?_
                      refine va_last (D := D) (i := y5) (x := y130) hx hb hK hP hD hS 4 3 rfl rfl (i_in (a := y5.toInt) rfl (by first | omega | ((try (have i_t34 := Imp.go t34 (by omega))); (try (have i_t33 := Imp.go t33 (by omega))); (try (have i_t33 := Imp.go t33 (by omega))); (try (have i_t34 := Imp.go t34 (by omega))); omega))) dX12_cutAll_286 (fun H locs hP hD hS => ?_)
                      obtain ⟨L140, hL140⟩ : ∃ z, z = upL L7 6 (Int32.toNatClampNeg y5) y130 := ⟨_, rfl⟩
                      have hP : va_P D vwCl (mw ad kk ks.1 V139 L140) H := by rw [hL140]; exact hP
                      have hD : va_D A (mw ad kk ks.1 V139 L140) := by rw [hL140]; exact hD
                      have alL140 : agL [4, 5, 6] L L140 := agL.up alL7 hL140 rfl
                      obtain ⟨z141, ez141⟩ : ∃ y : Int32, y = y5 + 1 := ⟨_, rfl⟩
                      have hz141 : z141.toInt = y5.toInt + 1 := i_add ez141 rfl (by decide) (by omega)
                      refine lv_iinc (v := z141) (lv' := [(1, .int z141), (5, .long y130), (4, .int y4), (3, .int (V 1 (Int32.toNatClampNeg y4))), (2, .int y131), (0, .ref (ad 0))]) hx hb dX12_cutAll_287 hl (k := 4) rfl (by rw [ez141]; rfl) (by decide) rfl (fun ls hl => ?_)
                      refine lv_goto (tgt := 17) hx hb dX12_cutAll_290 (by decide) ?_
                      have pq142 : (V139 0 3).toInt = ((V 0 2)).toInt := congrArg Int32.toInt ((up2_o hV139 (by decide)).trans ((up2_o hV29 (by decide)).trans ((ajV6 0 3 rfl).trans ((up2_k hV3 (by decide)).trans (up2_s hV2)))))
                      have kz143 := i_clamp (x := y4) rfl (by omega)
                      have ez : y4.toInt.toNat = Int32.toNatClampNeg y4 := by omega
                      have kz144 := i_clamp (x := y5) rfl (by omega)
                      have hd9 : isLt (V 1 y4.toInt.toNat) := by rw [ez]; exact Imp.go t33 (by omega)
                      have hl0 : y4.toInt.toNat < y131.toInt.toNat := by first | omega | ((try (have i_t34 := Imp.go t34 (by omega))); (try (have i_t33 := Imp.go t33 (by omega))); (try (have i_t33 := Imp.go t33 (by omega))); (try (have i_t34 := Imp.go t34 (by omega))); omega)
                      have hrun : RUN isLD (V 1) (V 0 2).toInt.toNat y4.toInt.toNat y131.toInt.toNat := ⟨hl0, by first | omega | ((try (have i_t34 := Imp.go t34 (by omega))); (try (have i_t33 := Imp.go t33 (by omega))); (try (have i_t33 := Imp.go t33 (by omega))); (try (have i_t34 := Imp.go t34 (by omega))); omega), fun k a b => xlp132_2 k (by omega) (by omega), Or.inl (by first | omega | ((try (have i_t34 := Imp.go t34 (by omega))); (try (have i_t33 := Imp.go t33 (by omega))); (try (have i_t33 := Imp.go t33 (by omega))); (try (have i_t34 := Imp.go t34 (by omega))); omega))⟩
                      exact ihlp8 y131 z141 V139 L140 H locs ls (by first | omega | ((try (have i_t34 := Imp.go t34 (by omega))); (try (have i_t33 := Imp.go t33 (by omega))); (try (have i_t33 := Imp.go t33 (by omega))); (try (have i_t34 := Imp.go t34 (by omega))); omega)) (by first | omega | ((try (have i_t34 := Imp.go t34 (by omega))); (try (have i_t33 := Imp.go t33 (by omega))); (try (have i_t33 := Imp.go t33 (by omega))); (try (have i_t34 := Imp.go t34 (by omega))); omega)) (show z141.toInt ≤ y131.toInt from by first | omega | ((try (have i_t34 := Imp.go t34 (by omega))); (try (have i_t33 := Imp.go t33 (by omega))); (try (have i_t33 := Imp.go t33 (by omega))); (try (have i_t34 := Imp.go t34 (by omega))); omega)) (show y131.toInt ≤ (V139 0 3).toInt from by first | omega | ((try (have i_t34 := Imp.go t34 (by omega))); (try (have i_t33 := Imp.go t33 (by omega))); (try (have i_t33 := Imp.go t33 (by omega))); (try (have i_t34 := Imp.go t34 (by omega))); omega)) (RTq.tk (t := y5.toInt.toNat) (p := y4.toInt.toNat) (e := y131.toInt.toNat) xlp8_2 hV29 hV139 hL140 (by omega) (by first | omega | ((try (have i_t34 := Imp.go t34 (by omega))); (try (have i_t33 := Imp.go t33 (by omega))); (try (have i_t33 := Imp.go t33 (by omega))); (try (have i_t34 := Imp.go t34 (by omega))); omega)) rfl (by omega) (by rw [ez]; unfold isBl; omega) (Or.inr (Or.inl ⟨hd9, hrun⟩)) ⟨fun q => absurd hd9 (fun z => dg_lt q z), fun _ => ⟨fun h => absurd h (by first | omega | ((try (have i_t34 := Imp.go t34 (by omega))); (try (have i_t33 := Imp.go t33 (by omega))); (try (have i_t33 := Imp.go t33 (by omega))); (try (have i_t34 := Imp.go t34 (by omega))); omega)), fun h => ⟨by decide, by have z9 := xlp132_3 (by first | omega | ((try (have i_t34 := Imp.go t34 (by omega))); (try (have i_t33 := Imp.go t33 (by omega))); (try (have i_t33 := Imp.go t33 (by omega))); (try (have i_t34 := Imp.go t34 (by omega))); omega)); rw [show (y131.toInt - y4.toInt).toNat = y131.toInt.toNat - y4.toInt.toNat from by omega] at z9; exact z9⟩⟩, fun _ q => absurd hd9 q⟩) (by first | omega | ((try (have i_t34 := Imp.go t34 (by omega))); (try (have i_t33 := Imp.go t33 (by omega))); (try (have i_t33 := Imp.go t33 (by omega))); (try (have i_t34 := Imp.go t34 (by omega))); omega)) alL140 (agr.up (agr.up (agr.tr agr.rf ajV6 (by decide) (by decide)) hV29 rfl) hV139 rfl) hMV139 hP hD hS (lv_sub hl [4, 0, 5] rfl)
                    · skip
                      have f145 : 12 < z136.toInt := b_nle rfl (by decide) c137
                      refine lv_iconst (v := 4) hx hb dX12_cutAll_155 (by decide) ?_
                      refine lv_goto (tgt := 160) hx hb dX12_cutAll_156 (by decide) ?_
                      refine va_iast (D := D) (i := y5) (x := 4) hx hb hK hP hD hS 2 1 rfl rfl (i_in (a := y5.toInt) rfl (by first | omega | ((try (have i_t34 := Imp.go t34 (by omega))); (try (have i_t33 := Imp.go t33 (by omega))); (try (have i_t33 := Imp.go t33 (by omega))); (try (have i_t34 := Imp.go t34 (by omega))); omega))) dX12_cutAll_160 (fun H locs hP hD hS => ?_)
                      obtain ⟨V146, hV146⟩ : ∃ z, z = up2 V29 4 (Int32.toNatClampNeg y5) 4 := ⟨_, rfl⟩
                      have hP : va_P D vwCl (mw ad kk ks.1 V146 L7) H := by rw [hV146]; exact hP
                      have hD : va_D A (mw ad kk ks.1 V146 L7) := by rw [hV146]; exact hD
                      have hMV146 : rgd bM V146 := hMV29.put hV146 (i_full _)
                      have agV146 : agr [(0, 2), (0, 3), (0, 7), (0, 8)] [4, 5, 6] V V146 := agV29.up hV146 rfl
                      refine lv_goto (tgt := 279) hx hb dX12_cutAll_161 (by decide) ?_
                      refine lv_aload_n hx hb dX12_cutAll_279 rfl (lv_at hl 5 rfl) ?_
                      refine va_get (D := D) (ci := 12) (v := .ref (ad 6)) (C := RX12) (T := TX12) (N := 100) hx hb hg inX12 hown hK hP 0 rfl rfl 6 (by decide) (hg _ w1712) (fun _ h9 => h9) rfl dX12_cutAll_280 ?_
                      refine lv_iload_n hx hb dX12_cutAll_283 rfl (lv_at hl 4 rfl) ?_
                      refine lv_lload hx hb dX12_cutAll_284 (lv_at hl 0 rfl) ?_
                      refine va_last (D := D) (i := y5) (x := y130) hx hb hK hP hD hS 4 3 rfl rfl (i_in (a := y5.toInt) rfl (by first | omega | ((try (have i_t34 := Imp.go t34 (by omega))); (try (have i_t33 := Imp.go t33 (by omega))); (try (have i_t33 := Imp.go t33 (by omega))); (try (have i_t34 := Imp.go t34 (by omega))); omega))) dX12_cutAll_286 (fun H locs hP hD hS => ?_)
                      obtain ⟨L147, hL147⟩ : ∃ z, z = upL L7 6 (Int32.toNatClampNeg y5) y130 := ⟨_, rfl⟩
                      have hP : va_P D vwCl (mw ad kk ks.1 V146 L147) H := by rw [hL147]; exact hP
                      have hD : va_D A (mw ad kk ks.1 V146 L147) := by rw [hL147]; exact hD
                      have alL147 : agL [4, 5, 6] L L147 := agL.up alL7 hL147 rfl
                      obtain ⟨z148, ez148⟩ : ∃ y : Int32, y = y5 + 1 := ⟨_, rfl⟩
                      have hz148 : z148.toInt = y5.toInt + 1 := i_add ez148 rfl (by decide) (by omega)
                      refine lv_iinc (v := z148) (lv' := [(1, .int z148), (5, .long y130), (4, .int y4), (3, .int (V 1 (Int32.toNatClampNeg y4))), (2, .int y131), (0, .ref (ad 0))]) hx hb dX12_cutAll_287 hl (k := 4) rfl (by rw [ez148]; rfl) (by decide) rfl (fun ls hl => ?_)
                      refine lv_goto (tgt := 17) hx hb dX12_cutAll_290 (by decide) ?_
                      have pq149 : (V146 0 3).toInt = ((V 0 2)).toInt := congrArg Int32.toInt ((up2_o hV146 (by decide)).trans ((up2_o hV29 (by decide)).trans ((ajV6 0 3 rfl).trans ((up2_k hV3 (by decide)).trans (up2_s hV2)))))
                      have kz150 := i_clamp (x := y4) rfl (by omega)
                      have ez : y4.toInt.toNat = Int32.toNatClampNeg y4 := by omega
                      have kz151 := i_clamp (x := y5) rfl (by omega)
                      have hd9 : isLt (V 1 y4.toInt.toNat) := by rw [ez]; exact Imp.go t33 (by omega)
                      have hl0 : y4.toInt.toNat < y131.toInt.toNat := by first | omega | ((try (have i_t34 := Imp.go t34 (by omega))); (try (have i_t33 := Imp.go t33 (by omega))); (try (have i_t33 := Imp.go t33 (by omega))); (try (have i_t34 := Imp.go t34 (by omega))); omega)
                      have hrun : RUN isLD (V 1) (V 0 2).toInt.toNat y4.toInt.toNat y131.toInt.toNat := ⟨hl0, by first | omega | ((try (have i_t34 := Imp.go t34 (by omega))); (try (have i_t33 := Imp.go t33 (by omega))); (try (have i_t33 := Imp.go t33 (by omega))); (try (have i_t34 := Imp.go t34 (by omega))); omega), fun k a b => xlp132_2 k (by omega) (by omega), Or.inl (by first | omega | ((try (have i_t34 := Imp.go t34 (by omega))); (try (have i_t33 := Imp.go t33 (by omega))); (try (have i_t33 := Imp.go t33 (by omega))); (try (have i_t34 := Imp.go t34 (by omega))); omega))⟩
                      exact ihlp8 y131 z148 V146 L147 H locs ls (by first | omega | ((try (have i_t34 := Imp.go t34 (by omega))); (try (have i_t33 := Imp.go t33 (by omega))); (try (have i_t33 := Imp.go t33 (by omega))); (try (have i_t34 := Imp.go t34 (by omega))); omega)) (by first | omega | ((try (have i_t34 := Imp.go t34 (by omega))); (try (have i_t33 := Imp.go t33 (by omega))); (try (have i_t33 := Imp.go t33 (by omega))); (try (have i_t34 := Imp.go t34 (by omega))); omega)) (show z148.toInt ≤ y131.toInt from by first | omega | ((try (have i_t34 := Imp.go t34 (by omega))); (try (have i_t33 := Imp.go t33 (by omega))); (try (have i_t33 := Imp.go t33 (by omega))); (try (have i_t34 := Imp.go t34 (by omega))); omega)) (show y131.toInt ≤ (V146 0 3).toInt from by first | omega | ((try (have i_t34 := Imp.go t34 (by omega))); (try (have i_t33 := Imp.go t33 (by omega))); (try (have i_t33 := Imp.go t33 (by omega))); (try (have i_t34 := Imp.go t34 (by omega))); omega)) (RTq.tk (t := y5.toInt.toNat) (p := y4.toInt.toNat) (e := y131.toInt.toNat) xlp8_2 hV29 hV146 hL147 (by omega) (by first | omega | ((try (have i_t34 := Imp.go t34 (by omega))); (try (have i_t33 := Imp.go t33 (by omega))); (try (have i_t33 := Imp.go t33 (by omega))); (try (have i_t34 := Imp.go t34 (by omega))); omega)) rfl (by omega) (by rw [ez]; unfold isBl; omega) (Or.inr (Or.inl ⟨hd9, hrun⟩)) ⟨fun q => absurd hd9 (fun z => dg_lt q z), fun _ => ⟨fun _ => by decide, fun h => absurd h (by first | omega | ((try (have i_t34 := Imp.go t34 (by omega))); (try (have i_t33 := Imp.go t33 (by omega))); (try (have i_t33 := Imp.go t33 (by omega))); (try (have i_t34 := Imp.go t34 (by omega))); omega))⟩, fun _ q => absurd hd9 q⟩) (by first | omega | ((try (have i_t34 := Imp.go t34 (by omega))); (try (have i_t33 := Imp.go t33 (by omega))); (try (have i_t33 := Imp.go t33 (by omega))); (try (have i_t34 := Imp.go t34 (by omega))); omega)) alL147 (agr.up (agr.up (agr.tr agr.rf ajV6 (by decide) (by decide)) hV29 rfl) hV146 rfl) hMV146 hP hD hS (lv_sub hl [4, 0, 5] rfl)
                  · skip
                    have f152 : y131.toInt < ((V 0 2)).toInt := b_nle rfl rfl c134
                    refine lv_aload_n hx hb dX12_cutAll_78 rfl (lv_at hl 5 rfl) ?_
                    refine va_get (D := D) (ci := 12) (v := .ref (ad 1)) (C := RX12) (T := TX12) (N := 100) hx hb hg inX12 hown hK hP 0 rfl rfl 1 (by decide) (hg _ w1707) (fun _ h9 => h9) rfl dX12_cutAll_79 ?_
                    refine lv_iload_n hx hb dX12_cutAll_82 rfl (lv_at hl 3 rfl) ?_
                    refine va_iald (D := D) (i := y131) hx hb hK hP 1 0 rfl rfl (i_in (a := y131.toInt) rfl (by first | omega | ((try (have i_t34 := Imp.go t34 (by omega))); (try (have i_t33 := Imp.go t33 (by omega))); (try (have i_t33 := Imp.go t33 (by omega))); (try (have i_t34 := Imp.go t34 (by omega))); omega))) dX12_cutAll_83 ?_
                    refine g_top (v := (V 1 (Int32.toNatClampNeg y131))) ((up2_o hV29 (by decide)).trans ((ajV6 1 (Int32.toNatClampNeg y131) rfl).trans ((up2_o hV3 (by decide)).trans (up2_o hV2 (by decide))))) ?_
                    refine gE_int (g_runS (As := [.int (V 1 (Int32.toNatClampNeg y131))]) (rest := []) (wc := []) (tc := []) hx hb hml hown hg gw_self hP hD hK hS hA hnw hgk [] [] (by decide) rfl rfl (s_isLetter l D ks H.size (V 1 (Int32.toNatClampNeg y131)) ) w1703 w1704 w172 w1705 hdS_yX12_isLetter ⟨Nat.le_of_ble_eq_true rfl, Nat.le_of_ble_eq_true rfl⟩ rfl hl.1 rfl (Nat.le_of_ble_eq_true rfl) dX12_cutAll_84 ⟨Nat.le_of_ble_eq_true rfl, Nat.le_of_ble_eq_true rfl⟩) hP hD hK hS hA (fun z153 u154 H locs w155 hP hD hK hS => ?_)
                    obtain ⟨rgz153, t156, t157⟩ := w155
                    have rgz153 : 0 ≤ z153.toInt ∧ z153.toInt ≤ 1 := rgz153
                    have t156 : Imp (z153.toInt = 1) (97 ≤ ((V 1 (Int32.toNatClampNeg y131))).toInt ∧ ((V 1 (Int32.toNatClampNeg y131))).toInt ≤ 122) := t156
                    have t157 : Imp (z153.toInt = 0) (((V 1 (Int32.toNatClampNeg y131))).toInt < 97 ∨ 122 < ((V 1 (Int32.toNatClampNeg y131))).toInt) := t157
                    refine lv_if_ne (tgt := 102) hx hb dX12_cutAll_87 (by decide) (fun c158 => ?_) (fun c158 => ?_)
                    · skip
                      have f159 : z153.toInt ≠ 0 := b_neq rfl (by decide) c158
                      refine lv_iload_n hx hb dX12_cutAll_102 rfl (lv_at hl 3 rfl) ?_
                      refine lv_iload hx hb dX12_cutAll_103 (lv_at hl 1 rfl) ?_
                      refine lv_isub hx hb dX12_cutAll_105 ?_
                      refine lv_topi (fun z160 ez160 => ?_)
                      have hz160 : z160.toInt = y131.toInt - y4.toInt := i_sub ez160 rfl rfl (by omega)
                      refine lv_bipush (v := 12) hx hb dX12_cutAll_106 (by decide) ?_
                      refine lv_icmp_ge (tgt := 131) hx hb dX12_cutAll_108 (by decide) (fun c161 => ?_) (fun c161 => ?_)
                      · skip
                        have f162 : 12 ≤ z160.toInt := b_le (by decide) rfl c161
                        refine lv_lload hx hb dX12_cutAll_131 (lv_at hl 0 rfl) ?_
                        refine lv_lstore (lv' := [(5, .long y130), (4, .int y4), (3, .int (V 1 (Int32.toNatClampNeg y4))), (2, .int y131), (1, .int y5), (0, .ref (ad 0))]) hx hb dX12_cutAll_133 hl (by decide) rfl (fun ls hl => ?_)
                        obtain ⟨z163, ez163⟩ : ∃ y : Int32, y = y131 + 1 := ⟨_, rfl⟩
                        have hz163 : z163.toInt = y131.toInt + 1 := i_add ez163 rfl (by decide) (by omega)
                        refine lv_iinc (v := z163) (lv' := [(2, .int z163), (5, .long y130), (4, .int y4), (3, .int (V 1 (Int32.toNatClampNeg y4))), (1, .int y5), (0, .ref (ad 0))]) hx hb dX12_cutAll_135 hl (k := 3) rfl (by rw [ez163]; rfl) (by decide) rfl (fun ls hl => ?_)
                        refine lv_goto (tgt := 70) hx hb dX12_cutAll_138 (by decide) ?_
                        have kz164 := i_clamp (x := y131) rfl (by omega)
                        have hld : isLD (V 1 (Int32.toNatClampNeg y131)) := Or.inl (Imp.go t156 (by omega))
                        exact ihlp132 y130 z163 H locs ls (by first | omega | ((try (have i_t157 := Imp.go t157 (by omega))); (try (have i_t156 := Imp.go t156 (by omega))); (try (have i_t34 := Imp.go t34 (by omega))); (try (have i_t33 := Imp.go t33 (by omega))); (try (have i_t33 := Imp.go t33 (by omega))); (try (have i_t34 := Imp.go t34 (by omega))); (try (have i_t156 := Imp.go t156 (by omega))); (try (have i_t157 := Imp.go t157 (by omega))); omega)) (show y4.toInt ≤ z163.toInt from by first | omega | ((try (have i_t157 := Imp.go t157 (by omega))); (try (have i_t156 := Imp.go t156 (by omega))); (try (have i_t34 := Imp.go t34 (by omega))); (try (have i_t33 := Imp.go t33 (by omega))); (try (have i_t33 := Imp.go t33 (by omega))); (try (have i_t34 := Imp.go t34 (by omega))); (try (have i_t156 := Imp.go t156 (by omega))); (try (have i_t157 := Imp.go t157 (by omega))); omega)) (show z163.toInt ≤ (V29 0 3).toInt from by first | omega | ((try (have i_t157 := Imp.go t157 (by omega))); (try (have i_t156 := Imp.go t156 (by omega))); (try (have i_t34 := Imp.go t34 (by omega))); (try (have i_t33 := Imp.go t33 (by omega))); (try (have i_t33 := Imp.go t33 (by omega))); (try (have i_t34 := Imp.go t34 (by omega))); (try (have i_t156 := Imp.go t156 (by omega))); (try (have i_t157 := Imp.go t157 (by omega))); omega)) (fun k a b => by by_cases c : (k : Int) < y131.toInt; exact xlp132_2 k a c; have ek : k = Int32.toNatClampNeg y131 := (by first | omega | ((try (have i_t157 := Imp.go t157 (by omega))); (try (have i_t156 := Imp.go t156 (by omega))); (try (have i_t34 := Imp.go t34 (by omega))); (try (have i_t33 := Imp.go t33 (by omega))); (try (have i_t33 := Imp.go t33 (by omega))); (try (have i_t34 := Imp.go t34 (by omega))); (try (have i_t156 := Imp.go t156 (by omega))); (try (have i_t157 := Imp.go t157 (by omega))); omega)); rw [ek]; exact hld) (fun h9 => absurd h9 (by first | omega | ((try (have i_t157 := Imp.go t157 (by omega))); (try (have i_t156 := Imp.go t156 (by omega))); (try (have i_t34 := Imp.go t34 (by omega))); (try (have i_t33 := Imp.go t33 (by omega))); (try (have i_t33 := Imp.go t33 (by omega))); (try (have i_t34 := Imp.go t34 (by omega))); (try (have i_t156 := Imp.go t156 (by omega))); (try (have i_t157 := Imp.go t157 (by omega))); omega))) (by first | omega | ((try (have i_t157 := Imp.go t157 (by omega))); (try (have i_t156 := Imp.go t156 (by omega))); (try (have i_t34 := Imp.go t34 (by omega))); (try (have i_t33 := Imp.go t33 (by omega))); (try (have i_t33 := Imp.go t33 (by omega))); (try (have i_t34 := Imp.go t34 (by omega))); (try (have i_t156 := Imp.go t156 (by omega))); (try (have i_t157 := Imp.go t157 (by omega))); omega)) hP hD hS (lv_sub hl [1, 2, 3, 0, 4, 5] rfl)
                      · skip
                        have f165 : z160.toInt < 12 := b_nle (by decide) rfl c161
                        refine lv_ldc2 (v := 37) hx hb hown (hg _ w1699) dX12_cutAll_111 ?_
                        refine lv_lload hx hb dX12_cutAll_114 (lv_at hl 0 rfl) ?_
                        refine lv_lmul hx hb dX12_cutAll_116 ?_
                        refine lv_topl (fun w166 ew166 => ?_)
                        refine lv_aload_n hx hb dX12_cutAll_117 rfl (lv_at hl 5 rfl) ?_
                        refine va_get (D := D) (ci := 12) (v := .ref (ad 1)) (C := RX12) (T := TX12) (N := 100) hx hb hg inX12 hown hK hP 0 rfl rfl 1 (by decide) (hg _ w1707) (fun _ h9 => h9) rfl dX12_cutAll_118 ?_
                        refine lv_iload_n hx hb dX12_cutAll_121 rfl (lv_at hl 3 rfl) ?_
                        refine va_iald (D := D) (i := y131) hx hb hK hP 1 0 rfl rfl (i_in (a := y131.toInt) rfl (by first | omega | ((try (have i_t157 := Imp.go t157 (by omega))); (try (have i_t156 := Imp.go t156 (by omega))); (try (have i_t34 := Imp.go t34 (by omega))); (try (have i_t33 := Imp.go t33 (by omega))); (try (have i_t33 := Imp.go t33 (by omega))); (try (have i_t34 := Imp.go t34 (by omega))); (try (have i_t156 := Imp.go t156 (by omega))); (try (have i_t157 := Imp.go t157 (by omega))); omega))) dX12_cutAll_122 ?_
                        refine g_top (v := (V 1 (Int32.toNatClampNeg y131))) ((up2_o hV29 (by decide)).trans ((ajV6 1 (Int32.toNatClampNeg y131) rfl).trans ((up2_o hV3 (by decide)).trans (up2_o hV2 (by decide))))) ?_
                        refine gE_int (g_runS (As := [.int (V 1 (Int32.toNatClampNeg y131))]) (rest := [.long w166]) (wc := []) (tc := []) hx hb hml hown hg gw_self hP hD hK hS hA hnw hgk [] [] (by decide) rfl rfl (s_rank2 l D ks H.size (V 1 (Int32.toNatClampNeg y131)) ) w1700 w1701 w172 w1702 hdS_yX12_rank ⟨Nat.le_of_ble_eq_true rfl, Nat.le_of_ble_eq_true rfl⟩ rfl hl.1 rfl (Nat.le_of_ble_eq_true rfl) dX12_cutAll_123 ⟨Nat.le_of_ble_eq_true rfl, Nat.le_of_ble_eq_true rfl⟩) hP hD hK hS hA (fun z167 u168 H locs w169 hP hD hK hS => ?_)
                        have t170 := w169
                        have t170 : z167 = (if 97 ≤ ((V 1 (Int32.toNatClampNeg y131))).toInt ∧ ((V 1 (Int32.toNatClampNeg y131))).toInt ≤ 122 then (V 1 (Int32.toNatClampNeg y131)) - 96 else (V 1 (Int32.toNatClampNeg y131)) - 21) := t170
                        refine lv_i2l hx hb dX12_cutAll_126 rfl ?_
                        refine lv_topl (fun w171 ew171 => ?_)
                        refine lv_ladd hx hb dX12_cutAll_127 ?_
                        refine lv_topl (fun w172 ew172 => ?_)
                        refine lv_goto (tgt := 133) hx hb dX12_cutAll_128 (by decide) ?_
                        refine lv_lstore (lv' := [(5, .long w172), (4, .int y4), (3, .int (V 1 (Int32.toNatClampNeg y4))), (2, .int y131), (1, .int y5), (0, .ref (ad 0))]) hx hb dX12_cutAll_133 hl (by decide) rfl (fun ls hl => ?_)
                        obtain ⟨z173, ez173⟩ : ∃ y : Int32, y = y131 + 1 := ⟨_, rfl⟩
                        have hz173 : z173.toInt = y131.toInt + 1 := i_add ez173 rfl (by decide) (by omega)
                        refine lv_iinc (v := z173) (lv' := [(2, .int z173), (5, .long w172), (4, .int y4), (3, .int (V 1 (Int32.toNatClampNeg y4))), (1, .int y5), (0, .ref (ad 0))]) hx hb dX12_cutAll_135 hl (k := 3) rfl (by rw [ez173]; rfl) (by decide) rfl (fun ls hl => ?_)
                        refine lv_goto (tgt := 70) hx hb dX12_cutAll_138 (by decide) ?_
                        have kz174 := i_clamp (x := y131) rfl (by omega)
                        have hld : isLD (V 1 (Int32.toNatClampNeg y131)) := Or.inl (Imp.go t156 (by omega))
                        exact ihlp132 w172 z173 H locs ls (by first | omega | ((try (have i_t157 := Imp.go t157 (by omega))); (try (have i_t156 := Imp.go t156 (by omega))); (try (have i_t34 := Imp.go t34 (by omega))); (try (have i_t33 := Imp.go t33 (by omega))); (try (have i_t33 := Imp.go t33 (by omega))); (try (have i_t34 := Imp.go t34 (by omega))); (try (have i_t156 := Imp.go t156 (by omega))); (try (have i_t157 := Imp.go t157 (by omega))); omega)) (show y4.toInt ≤ z173.toInt from by first | omega | ((try (have i_t157 := Imp.go t157 (by omega))); (try (have i_t156 := Imp.go t156 (by omega))); (try (have i_t34 := Imp.go t34 (by omega))); (try (have i_t33 := Imp.go t33 (by omega))); (try (have i_t33 := Imp.go t33 (by omega))); (try (have i_t34 := Imp.go t34 (by omega))); (try (have i_t156 := Imp.go t156 (by omega))); (try (have i_t157 := Imp.go t157 (by omega))); omega)) (show z173.toInt ≤ (V29 0 3).toInt from by first | omega | ((try (have i_t157 := Imp.go t157 (by omega))); (try (have i_t156 := Imp.go t156 (by omega))); (try (have i_t34 := Imp.go t34 (by omega))); (try (have i_t33 := Imp.go t33 (by omega))); (try (have i_t33 := Imp.go t33 (by omega))); (try (have i_t34 := Imp.go t34 (by omega))); (try (have i_t156 := Imp.go t156 (by omega))); (try (have i_t157 := Imp.go t157 (by omega))); omega)) (fun k a b => by by_cases c : (k : Int) < y131.toInt; exact xlp132_2 k a c; have ek : k = Int32.toNatClampNeg y131 := (by first | omega | ((try (have i_t157 := Imp.go t157 (by omega))); (try (have i_t156 := Imp.go t156 (by omega))); (try (have i_t34 := Imp.go t34 (by omega))); (try (have i_t33 := Imp.go t33 (by omega))); (try (have i_t33 := Imp.go t33 (by omega))); (try (have i_t34 := Imp.go t34 (by omega))); (try (have i_t156 := Imp.go t156 (by omega))); (try (have i_t157 := Imp.go t157 (by omega))); omega)); rw [ek]; exact hld) (fun h9 => by rw [show (z173.toInt - y4.toInt).toNat = (y131.toInt - y4.toInt).toNat + 1 from by first | omega | ((try (have i_t157 := Imp.go t157 (by omega))); (try (have i_t156 := Imp.go t156 (by omega))); (try (have i_t34 := Imp.go t34 (by omega))); (try (have i_t33 := Imp.go t33 (by omega))); (try (have i_t33 := Imp.go t33 (by omega))); (try (have i_t34 := Imp.go t34 (by omega))); (try (have i_t156 := Imp.go t156 (by omega))); (try (have i_t157 := Imp.go t157 (by omega))); omega), wv_s, ← xlp132_3 (by first | omega | ((try (have i_t157 := Imp.go t157 (by omega))); (try (have i_t156 := Imp.go t156 (by omega))); (try (have i_t34 := Imp.go t34 (by omega))); (try (have i_t33 := Imp.go t33 (by omega))); (try (have i_t33 := Imp.go t33 (by omega))); (try (have i_t34 := Imp.go t34 (by omega))); (try (have i_t156 := Imp.go t156 (by omega))); (try (have i_t157 := Imp.go t157 (by omega))); omega)), show y4.toInt.toNat + (y131.toInt - y4.toInt).toNat = Int32.toNatClampNeg y131 from by first | omega | ((try (have i_t157 := Imp.go t157 (by omega))); (try (have i_t156 := Imp.go t156 (by omega))); (try (have i_t34 := Imp.go t34 (by omega))); (try (have i_t33 := Imp.go t33 (by omega))); (try (have i_t33 := Imp.go t33 (by omega))); (try (have i_t34 := Imp.go t34 (by omega))); (try (have i_t156 := Imp.go t156 (by omega))); (try (have i_t157 := Imp.go t157 (by omega))); omega)]; exact ew172.trans (by rw [ew166, ew171, t170, rk_cd hld, Int64.mul_comm])) (by first | omega | ((try (have i_t157 := Imp.go t157 (by omega))); (try (have i_t156 := Imp.go t156 (by omega))); (try (have i_t34 := Imp.go t34 (by omega))); (try (have i_t33 := Imp.go t33 (by omega))); (try (have i_t33 := Imp.go t33 (by omega))); (try (have i_t34 := Imp.go t34 (by omega))); (try (have i_t156 := Imp.go t156 (by omega))); (try (have i_t157 := Imp.go t157 (by omega))); omega)) hP hD hS (lv_sub hl [1, 2, 3, 0, 4, 5] rfl)
                    · skip
                      have f175 : z153.toInt = 0 := b_eq rfl (by decide) c158
                      refine lv_aload_n hx hb dX12_cutAll_90 rfl (lv_at hl 5 rfl) ?_
                      refine va_get (D := D) (ci := 12) (v := .ref (ad 1)) (C := RX12) (T := TX12) (N := 100) hx hb hg inX12 hown hK hP 0 rfl rfl 1 (by decide) (hg _ w1707) (fun _ h9 => h9) rfl dX12_cutAll_91 ?_
                      refine lv_iload_n hx hb dX12_cutAll_94 rfl (lv_at hl 3 rfl) ?_
                      refine va_iald (D := D) (i := y131) hx hb hK hP 1 0 rfl rfl (i_in (a := y131.toInt) rfl (by first | omega | ((try (have i_t157 := Imp.go t157 (by omega))); (try (have i_t156 := Imp.go t156 (by omega))); (try (have i_t34 := Imp.go t34 (by omega))); (try (have i_t33 := Imp.go t33 (by omega))); (try (have i_t33 := Imp.go t33 (by omega))); (try (have i_t34 := Imp.go t34 (by omega))); (try (have i_t156 := Imp.go t156 (by omega))); (try (have i_t157 := Imp.go t157 (by omega))); omega))) dX12_cutAll_95 ?_
                      refine g_top (v := (V 1 (Int32.toNatClampNeg y131))) ((up2_o hV29 (by decide)).trans ((ajV6 1 (Int32.toNatClampNeg y131) rfl).trans ((up2_o hV3 (by decide)).trans (up2_o hV2 (by decide))))) ?_
                      refine gE_int (g_runS (As := [.int (V 1 (Int32.toNatClampNeg y131))]) (rest := []) (wc := []) (tc := []) hx hb hml hown hg gw_self hP hD hK hS hA hnw hgk [] [] (by decide) rfl rfl (s_isDigit l D ks H.size (V 1 (Int32.toNatClampNeg y131)) ) w2015 w2016 w172 w2017 hdS_yX12_isDigit ⟨Nat.le_of_ble_eq_true rfl, Nat.le_of_ble_eq_true rfl⟩ rfl hl.1 rfl (Nat.le_of_ble_eq_true rfl) dX12_cutAll_96 ⟨Nat.le_of_ble_eq_true rfl, Nat.le_of_ble_eq_true rfl⟩) hP hD hK hS hA (fun z176 u177 H locs w178 hP hD hK hS => ?_)
                      obtain ⟨rgz176, t179, t180⟩ := w178
                      have rgz176 : 0 ≤ z176.toInt ∧ z176.toInt ≤ 1 := rgz176
                      have t179 : Imp (z176.toInt = 1) (48 ≤ ((V 1 (Int32.toNatClampNeg y131))).toInt ∧ ((V 1 (Int32.toNatClampNeg y131))).toInt ≤ 57) := t179
                      have t180 : Imp (z176.toInt = 0) (((V 1 (Int32.toNatClampNeg y131))).toInt < 48 ∨ 57 < ((V 1 (Int32.toNatClampNeg y131))).toInt) := t180
                      refine lv_if_eq (tgt := 141) hx hb dX12_cutAll_99 (by decide) (fun c181 => ?_) (fun c181 => ?_)
                      · skip
                        have f182 : z176.toInt = 0 := b_eq rfl (by decide) c181
                        refine lv_aload_n hx hb dX12_cutAll_141 rfl (lv_at hl 5 rfl) ?_
                        refine va_get (D := D) (ci := 12) (v := .ref (ad 4)) (C := RX12) (T := TX12) (N := 100) hx hb hg inX12 hown hK hP 0 rfl rfl 4 (by decide) (hg _ w1710) (fun _ h9 => h9) rfl dX12_cutAll_142 ?_
                        refine lv_iload_n hx hb dX12_cutAll_145 rfl (lv_at hl 4 rfl) ?_
                        refine lv_iload_n hx hb dX12_cutAll_146 rfl (lv_at hl 3 rfl) ?_
                        refine lv_iload hx hb dX12_cutAll_147 (lv_at hl 1 rfl) ?_
                        refine lv_isub hx hb dX12_cutAll_149 ?_
                        refine lv_topi (fun z183 ez183 => ?_)
                        have hz183 : z183.toInt = y131.toInt - y4.toInt := i_sub ez183 rfl rfl (by omega)
                        refine lv_bipush (v := 12) hx hb dX12_cutAll_150 (by decide) ?_
                        refine lv_icmp_le (tgt := 159) hx hb dX12_cutAll_152 (by decide) (fun c184 => ?_) (fun c184 => ?_)
                        · skip
                          have f185 : z183.toInt ≤ 12 := b_le rfl (by decide) c184
                          refine lv_iconst (v := 1) hx hb dX12_cutAll_159 (by decide) ?_
                          refine va_iast (D := D) (i := y5) (x := 1) hx hb hK hP hD hS 2 1 rfl rfl (i_in (a := y5.toInt) rfl (by first | omega | ((try (have i_t180 := Imp.go t180 (by omega))); (try (have i_t179 := Imp.go t179 (by omega))); (try (have i_t157 := Imp.go t157 (by omega))); (try (have i_t156 := Imp.go t156 (by omega))); (try (have i_t34 := Imp.go t34 (by omega))); (try (have i_t33 := Imp.go t33 (by omega))); (try (have i_t33 := Imp.go t33 (by omega))); (try (have i_t34 := Imp.go t34 (by omega))); (try (have i_t156 := Imp.go t156 (by omega))); (try (have i_t157 := Imp.go t157 (by omega))); (try (have i_t179 := Imp.go t179 (by omega))); (try (have i_t180 := Imp.go t180 (by omega))); omega))) dX12_cutAll_160 (fun H locs hP hD hS => ?_)
                          obtain ⟨V186, hV186⟩ : ∃ z, z = up2 V29 4 (Int32.toNatClampNeg y5) 1 := ⟨_, rfl⟩
                          have hP : va_P D vwCl (mw ad kk ks.1 V186 L7) H := by rw [hV186]; exact hP
                          have hD : va_D A (mw ad kk ks.1 V186 L7) := by rw [hV186]; exact hD
                          have hMV186 : rgd bM V186 := hMV29.put hV186 (i_full _)
                          have agV186 : agr [(0, 2), (0, 3), (0, 7), (0, 8)] [4, 5, 6] V V186 := agV29.up hV186 rfl
                          refine lv_goto (tgt := 279) hx hb dX12_cutAll_161 (by decide) ?_
                          refine lv_aload_n hx hb dX12_cutAll_279 rfl (lv_at hl 5 rfl) ?_
                          refine va_get (D := D) (ci := 12) (v := .ref (ad 6)) (C := RX12) (T := TX12) (N := 100) hx hb hg inX12 hown hK hP 0 rfl rfl 6 (by decide) (hg _ w1712) (fun _ h9 => h9) rfl dX12_cutAll_280 ?_
                          refine lv_iload_n hx hb dX12_cutAll_283 rfl (lv_at hl 4 rfl) ?_
                          refine lv_lload hx hb dX12_cutAll_284 (lv_at hl 0 rfl) ?_
                          refine va_last (D := D) (i := y5) (x := y130) hx hb hK hP hD hS 4 3 rfl rfl (i_in (a := y5.toInt) rfl (by first | omega | ((try (have i_t180 := Imp.go t180 (by omega))); (try (have i_t179 := Imp.go t179 (by omega))); (try (have i_t157 := Imp.go t157 (by omega))); (try (have i_t156 := Imp.go t156 (by omega))); (try (have i_t34 := Imp.go t34 (by omega))); (try (have i_t33 := Imp.go t33 (by omega))); (try (have i_t33 := Imp.go t33 (by omega))); (try (have i_t34 := Imp.go t34 (by omega))); (try (have i_t156 := Imp.go t156 (by omega))); (try (have i_t157 := Imp.go t157 (by omega))); (try (have i_t179 := Imp.go t179 (by omega))); (try (have i_t180 := Imp.go t180 (by omega))); omega))) dX12_cutAll_286 (fun H locs hP hD hS => ?_)
                          obtain ⟨L187, hL187⟩ : ∃ z, z = upL L7 6 (Int32.toNatClampNeg y5) y130 := ⟨_, rfl⟩
                          have hP : va_P D vwCl (mw ad kk ks.1 V186 L187) H := by rw [hL187]; exact hP
                          have hD : va_D A (mw ad kk ks.1 V186 L187) := by rw [hL187]; exact hD
                          have alL187 : agL [4, 5, 6] L L187 := agL.up alL7 hL187 rfl
                          obtain ⟨z188, ez188⟩ : ∃ y : Int32, y = y5 + 1 := ⟨_, rfl⟩
                          have hz188 : z188.toInt = y5.toInt + 1 := i_add ez188 rfl (by decide) (by omega)
                          refine lv_iinc (v := z188) (lv' := [(1, .int z188), (5, .long y130), (4, .int y4), (3, .int (V 1 (Int32.toNatClampNeg y4))), (2, .int y131), (0, .ref (ad 0))]) hx hb dX12_cutAll_287 hl (k := 4) rfl (by rw [ez188]; rfl) (by decide) rfl (fun ls hl => ?_)
                          refine lv_goto (tgt := 17) hx hb dX12_cutAll_290 (by decide) ?_
                          have pq189 : (V186 0 3).toInt = ((V 0 2)).toInt := congrArg Int32.toInt ((up2_o hV186 (by decide)).trans ((up2_o hV29 (by decide)).trans ((ajV6 0 3 rfl).trans ((up2_k hV3 (by decide)).trans (up2_s hV2)))))
                          have kz190 := i_clamp (x := y4) rfl (by omega)
                          have ez : y4.toInt.toNat = Int32.toNatClampNeg y4 := by omega
                          have kz191 := i_clamp (x := y5) rfl (by omega)
                          have hd9 : isLt (V 1 y4.toInt.toNat) := by rw [ez]; exact Imp.go t33 (by omega)
                          have kz192 := i_clamp (x := y131) rfl (by omega)
                          have ez2 : y131.toInt.toNat = Int32.toNatClampNeg y131 := by omega
                          have hnd : ¬ isLD (V 1 y131.toInt.toNat) := by rw [ez2]; exact fun q => q.elim (fun z => by have y := Imp.go t157 (by omega); have z1 := z.1; have z2 := z.2; omega) (fun z => by have y := Imp.go t180 (by omega); have z1 := z.1; have z2 := z.2; omega)
                          have hl0 : y4.toInt.toNat < y131.toInt.toNat := Nat.lt_of_le_of_ne (by omega) (fun h0 => hnd (by rw [← h0]; exact Or.inl hd9))
                          have hrun : RUN isLD (V 1) (V 0 2).toInt.toNat y4.toInt.toNat y131.toInt.toNat := ⟨hl0, by first | omega | ((try (have i_t180 := Imp.go t180 (by omega))); (try (have i_t179 := Imp.go t179 (by omega))); (try (have i_t157 := Imp.go t157 (by omega))); (try (have i_t156 := Imp.go t156 (by omega))); (try (have i_t34 := Imp.go t34 (by omega))); (try (have i_t33 := Imp.go t33 (by omega))); (try (have i_t33 := Imp.go t33 (by omega))); (try (have i_t34 := Imp.go t34 (by omega))); (try (have i_t156 := Imp.go t156 (by omega))); (try (have i_t157 := Imp.go t157 (by omega))); (try (have i_t179 := Imp.go t179 (by omega))); (try (have i_t180 := Imp.go t180 (by omega))); omega), fun k a b => xlp132_2 k (by omega) (by omega), Or.inr hnd⟩
                          exact ihlp8 y131 z188 V186 L187 H locs ls (by first | omega | ((try (have i_t180 := Imp.go t180 (by omega))); (try (have i_t179 := Imp.go t179 (by omega))); (try (have i_t157 := Imp.go t157 (by omega))); (try (have i_t156 := Imp.go t156 (by omega))); (try (have i_t34 := Imp.go t34 (by omega))); (try (have i_t33 := Imp.go t33 (by omega))); (try (have i_t33 := Imp.go t33 (by omega))); (try (have i_t34 := Imp.go t34 (by omega))); (try (have i_t156 := Imp.go t156 (by omega))); (try (have i_t157 := Imp.go t157 (by omega))); (try (have i_t179 := Imp.go t179 (by omega))); (try (have i_t180 := Imp.go t180 (by omega))); omega)) (by first | omega | ((try (have i_t180 := Imp.go t180 (by omega))); (try (have i_t179 := Imp.go t179 (by omega))); (try (have i_t157 := Imp.go t157 (by omega))); (try (have i_t156 := Imp.go t156 (by omega))); (try (have i_t34 := Imp.go t34 (by omega))); (try (have i_t33 := Imp.go t33 (by omega))); (try (have i_t33 := Imp.go t33 (by omega))); (try (have i_t34 := Imp.go t34 (by omega))); (try (have i_t156 := Imp.go t156 (by omega))); (try (have i_t157 := Imp.go t157 (by omega))); (try (have i_t179 := Imp.go t179 (by omega))); (try (have i_t180 := Imp.go t180 (by omega))); omega)) (show z188.toInt ≤ y131.toInt from by first | omega | ((try (have i_t180 := Imp.go t180 (by omega))); (try (have i_t179 := Imp.go t179 (by omega))); (try (have i_t157 := Imp.go t157 (by omega))); (try (have i_t156 := Imp.go t156 (by omega))); (try (have i_t34 := Imp.go t34 (by omega))); (try (have i_t33 := Imp.go t33 (by omega))); (try (have i_t33 := Imp.go t33 (by omega))); (try (have i_t34 := Imp.go t34 (by omega))); (try (have i_t156 := Imp.go t156 (by omega))); (try (have i_t157 := Imp.go t157 (by omega))); (try (have i_t179 := Imp.go t179 (by omega))); (try (have i_t180 := Imp.go t180 (by omega))); omega)) (show y131.toInt ≤ (V186 0 3).toInt from by first | omega | ((try (have i_t180 := Imp.go t180 (by omega))); (try (have i_t179 := Imp.go t179 (by omega))); (try (have i_t157 := Imp.go t157 (by omega))); (try (have i_t156 := Imp.go t156 (by omega))); (try (have i_t34 := Imp.go t34 (by omega))); (try (have i_t33 := Imp.go t33 (by omega))); (try (have i_t33 := Imp.go t33 (by omega))); (try (have i_t34 := Imp.go t34 (by omega))); (try (have i_t156 := Imp.go t156 (by omega))); (try (have i_t157 := Imp.go t157 (by omega))); (try (have i_t179 := Imp.go t179 (by omega))); (try (have i_t180 := Imp.go t180 (by omega))); omega)) (RTq.tk (t := y5.toInt.toNat) (p := y4.toInt.toNat) (e := y131.toInt.toNat) xlp8_2 hV29 hV186 hL187 (by omega) (by first | omega | ((try (have i_t180 := Imp.go t180 (by omega))); (try (have i_t179 := Imp.go t179 (by omega))); (try (have i_t157 := Imp.go t157 (by omega))); (try (have i_t156 := Imp.go t156 (by omega))); (try (have i_t34 := Imp.go t34 (by omega))); (try (have i_t33 := Imp.go t33 (by omega))); (try (have i_t33 := Imp.go t33 (by omega))); (try (have i_t34 := Imp.go t34 (by omega))); (try (have i_t156 := Imp.go t156 (by omega))); (try (have i_t157 := Imp.go t157 (by omega))); (try (have i_t179 := Imp.go t179 (by omega))); (try (have i_t180 := Imp.go t180 (by omega))); omega)) rfl (by omega) (by rw [ez]; unfold isBl; omega) (Or.inr (Or.inl ⟨hd9, hrun⟩)) ⟨fun q => absurd hd9 (fun z => dg_lt q z), fun _ => ⟨fun h => absurd h (by first | omega | ((try (have i_t180 := Imp.go t180 (by omega))); (try (have i_t179 := Imp.go t179 (by omega))); (try (have i_t157 := Imp.go t157 (by omega))); (try (have i_t156 := Imp.go t156 (by omega))); (try (have i_t34 := Imp.go t34 (by omega))); (try (have i_t33 := Imp.go t33 (by omega))); (try (have i_t33 := Imp.go t33 (by omega))); (try (have i_t34 := Imp.go t34 (by omega))); (try (have i_t156 := Imp.go t156 (by omega))); (try (have i_t157 := Imp.go t157 (by omega))); (try (have i_t179 := Imp.go t179 (by omega))); (try (have i_t180 := Imp.go t180 (by omega))); omega)), fun h => ⟨by decide, by have z9 := xlp132_3 (by first | omega | ((try (have i_t180 := Imp.go t180 (by omega))); (try (have i_t179 := Imp.go t179 (by omega))); (try (have i_t157 := Imp.go t157 (by omega))); (try (have i_t156 := Imp.go t156 (by omega))); (try (have i_t34 := Imp.go t34 (by omega))); (try (have i_t33 := Imp.go t33 (by omega))); (try (have i_t33 := Imp.go t33 (by omega))); (try (have i_t34 := Imp.go t34 (by omega))); (try (have i_t156 := Imp.go t156 (by omega))); (try (have i_t157 := Imp.go t157 (by omega))); (try (have i_t179 := Imp.go t179 (by omega))); (try (have i_t180 := Imp.go t180 (by omega))); omega)); rw [show (y131.toInt - y4.toInt).toNat = y131.toInt.toNat - y4.toInt.toNat from by omega] at z9; exact z9⟩⟩, fun _ q => absurd hd9 q⟩) (by first | omega | ((try (have i_t180 := Imp.go t180 (by omega))); (try (have i_t179 := Imp.go t179 (by omega))); (try (have i_t157 := Imp.go t157 (by omega))); (try (have i_t156 := Imp.go t156 (by omega))); (try (have i_t34 := Imp.go t34 (by omega))); (try (have i_t33 := Imp.go t33 (by omega))); (try (have i_t33 := Imp.go t33 (by omega))); (try (have i_t34 := Imp.go t34 (by omega))); (try (have i_t156 := Imp.go t156 (by omega))); (try (have i_t157 := Imp.go t157 (by omega))); (try (have i_t179 := Imp.go t179 (by omega))); (try (have i_t180 := Imp.go t180 (by omega))); omega)) alL187 (agr.up (agr.up (agr.tr agr.rf ajV6 (by decide) (by decide)) hV29 rfl) hV186 rfl) hMV186 hP hD hS (lv_sub hl [4, 0, 5] rfl)
                        · skip
                          have f193 : 12 < z183.toInt := b_nle rfl (by decide) c184
                          refine lv_iconst (v := 4) hx hb dX12_cutAll_155 (by decide) ?_
                          refine lv_goto (tgt := 160) hx hb dX12_cutAll_156 (by decide) ?_
                          refine va_iast (D := D) (i := y5) (x := 4) hx hb hK hP hD hS 2 1 rfl rfl (i_in (a := y5.toInt) rfl (by first | omega | ((try (have i_t180 := Imp.go t180 (by omega))); (try (have i_t179 := Imp.go t179 (by omega))); (try (have i_t157 := Imp.go t157 (by omega))); (try (have i_t156 := Imp.go t156 (by omega))); (try (have i_t34 := Imp.go t34 (by omega))); (try (have i_t33 := Imp.go t33 (by omega))); (try (have i_t33 := Imp.go t33 (by omega))); (try (have i_t34 := Imp.go t34 (by omega))); (try (have i_t156 := Imp.go t156 (by omega))); (try (have i_t157 := Imp.go t157 (by omega))); (try (have i_t179 := Imp.go t179 (by omega))); (try (have i_t180 := Imp.go t180 (by omega))); omega))) dX12_cutAll_160 (fun H locs hP hD hS => ?_)
                          obtain ⟨V194, hV194⟩ : ∃ z, z = up2 V29 4 (Int32.toNatClampNeg y5) 4 := ⟨_, rfl⟩
                          have hP : va_P D vwCl (mw ad kk ks.1 V194 L7) H := by rw [hV194]; exact hP
                          have hD : va_D A (mw ad kk ks.1 V194 L7) := by rw [hV194]; exact hD
                          have hMV194 : rgd bM V194 := hMV29.put hV194 (i_full _)
                          have agV194 : agr [(0, 2), (0, 3), (0, 7), (0, 8)] [4, 5, 6] V V194 := agV29.up hV194 rfl
                          refine lv_goto (tgt := 279) hx hb dX12_cutAll_161 (by decide) ?_
                          refine lv_aload_n hx hb dX12_cutAll_279 rfl (lv_at hl 5 rfl) ?_
                          refine va_get (D := D) (ci := 12) (v := .ref (ad 6)) (C := RX12) (T := TX12) (N := 100) hx hb hg inX12 hown hK hP 0 rfl rfl 6 (by decide) (hg _ w1712) (fun _ h9 => h9) rfl dX12_cutAll_280 ?_
                          refine lv_iload_n hx hb dX12_cutAll_283 rfl (lv_at hl 4 rfl) ?_
                          refine lv_lload hx hb dX12_cutAll_284 (lv_at hl 0 rfl) ?_
                          refine va_last (D := D) (i := y5) (x := y130) hx hb hK hP hD hS 4 3 rfl rfl (i_in (a := y5.toInt) rfl (by first | omega | ((try (have i_t180 := Imp.go t180 (by omega))); (try (have i_t179 := Imp.go t179 (by omega))); (try (have i_t157 := Imp.go t157 (by omega))); (try (have i_t156 := Imp.go t156 (by omega))); (try (have i_t34 := Imp.go t34 (by omega))); (try (have i_t33 := Imp.go t33 (by omega))); (try (have i_t33 := Imp.go t33 (by omega))); (try (have i_t34 := Imp.go t34 (by omega))); (try (have i_t156 := Imp.go t156 (by omega))); (try (have i_t157 := Imp.go t157 (by omega))); (try (have i_t179 := Imp.go t179 (by omega))); (try (have i_t180 := Imp.go t180 (by omega))); omega))) dX12_cutAll_286 (fun H locs hP hD hS => ?_)
                          obtain ⟨L195, hL195⟩ : ∃ z, z = upL L7 6 (Int32.toNatClampNeg y5) y130 := ⟨_, rfl⟩
                          have hP : va_P D vwCl (mw ad kk ks.1 V194 L195) H := by rw [hL195]; exact hP
                          have hD : va_D A (mw ad kk ks.1 V194 L195) := by rw [hL195]; exact hD
                          have alL195 : agL [4, 5, 6] L L195 := agL.up alL7 hL195 rfl
                          obtain ⟨z196, ez196⟩ : ∃ y : Int32, y = y5 + 1 := ⟨_, rfl⟩
                          have hz196 : z196.toInt = y5.toInt + 1 := i_add ez196 rfl (by decide) (by omega)
                          refine lv_iinc (v := z196) (lv' := [(1, .int z196), (5, .long y130), (4, .int y4), (3, .int (V 1 (Int32.toNatClampNeg y4))), (2, .int y131), (0, .ref (ad 0))]) hx hb dX12_cutAll_287 hl (k := 4) rfl (by rw [ez196]; rfl) (by decide) rfl (fun ls hl => ?_)
                          refine lv_goto (tgt := 17) hx hb dX12_cutAll_290 (by decide) ?_
                          have pq197 : (V194 0 3).toInt = ((V 0 2)).toInt := congrArg Int32.toInt ((up2_o hV194 (by decide)).trans ((up2_o hV29 (by decide)).trans ((ajV6 0 3 rfl).trans ((up2_k hV3 (by decide)).trans (up2_s hV2)))))
                          have kz198 := i_clamp (x := y4) rfl (by omega)
                          have ez : y4.toInt.toNat = Int32.toNatClampNeg y4 := by omega
                          have kz199 := i_clamp (x := y5) rfl (by omega)
                          have hd9 : isLt (V 1 y4.toInt.toNat) := by rw [ez]; exact Imp.go t33 (by omega)
                          have kz200 := i_clamp (x := y131) rfl (by omega)
                          have ez2 : y131.toInt.toNat = Int32.toNatClampNeg y131 := by omega
                          have hnd : ¬ isLD (V 1 y131.toInt.toNat) := by rw [ez2]; exact fun q => q.elim (fun z => by have y := Imp.go t157 (by omega); have z1 := z.1; have z2 := z.2; omega) (fun z => by have y := Imp.go t180 (by omega); have z1 := z.1; have z2 := z.2; omega)
                          have hl0 : y4.toInt.toNat < y131.toInt.toNat := Nat.lt_of_le_of_ne (by omega) (fun h0 => hnd (by rw [← h0]; exact Or.inl hd9))
                          have hrun : RUN isLD (V 1) (V 0 2).toInt.toNat y4.toInt.toNat y131.toInt.toNat := ⟨hl0, by first | omega | ((try (have i_t180 := Imp.go t180 (by omega))); (try (have i_t179 := Imp.go t179 (by omega))); (try (have i_t157 := Imp.go t157 (by omega))); (try (have i_t156 := Imp.go t156 (by omega))); (try (have i_t34 := Imp.go t34 (by omega))); (try (have i_t33 := Imp.go t33 (by omega))); (try (have i_t33 := Imp.go t33 (by omega))); (try (have i_t34 := Imp.go t34 (by omega))); (try (have i_t156 := Imp.go t156 (by omega))); (try (have i_t157 := Imp.go t157 (by omega))); (try (have i_t179 := Imp.go t179 (by omega))); (try (have i_t180 := Imp.go t180 (by omega))); omega), fun k a b => xlp132_2 k (by omega) (by omega), Or.inr hnd⟩
                          exact ihlp8 y131 z196 V194 L195 H locs ls (by first | omega | ((try (have i_t180 := Imp.go t180 (by omega))); (try (have i_t179 := Imp.go t179 (by omega))); (try (have i_t157 := Imp.go t157 (by omega))); (try (have i_t156 := Imp.go t156 (by omega))); (try (have i_t34 := Imp.go t34 (by omega))); (try (have i_t33 := Imp.go t33 (by omega))); (try (have i_t33 := Imp.go t33 (by omega))); (try (have i_t34 := Imp.go t34 (by omega))); (try (have i_t156 := Imp.go t156 (by omega))); (try (have i_t157 := Imp.go t157 (by omega))); (try (have i_t179 := Imp.go t179 (by omega))); (try (have i_t180 := Imp.go t180 (by omega))); omega)) (by first | omega | ((try (have i_t180 := Imp.go t180 (by omega))); (try (have i_t179 := Imp.go t179 (by omega))); (try (have i_t157 := Imp.go t157 (by omega))); (try (have i_t156 := Imp.go t156 (by omega))); (try (have i_t34 := Imp.go t34 (by omega))); (try (have i_t33 := Imp.go t33 (by omega))); (try (have i_t33 := Imp.go t33 (by omega))); (try (have i_t34 := Imp.go t34 (by omega))); (try (have i_t156 := Imp.go t156 (by omega))); (try (have i_t157 := Imp.go t157 (by omega))); (try (have i_t179 := Imp.go t179 (by omega))); (try (have i_t180 := Imp.go t180 (by omega))); omega)) (show z196.toInt ≤ y131.toInt from by first | omega | ((try (have i_t180 := Imp.go t180 (by omega))); (try (have i_t179 := Imp.go t179 (by omega))); (try (have i_t157 := Imp.go t157 (by omega))); (try (have i_t156 := Imp.go t156 (by omega))); (try (have i_t34 := Imp.go t34 (by omega))); (try (have i_t33 := Imp.go t33 (by omega))); (try (have i_t33 := Imp.go t33 (by omega))); (try (have i_t34 := Imp.go t34 (by omega))); (try (have i_t156 := Imp.go t156 (by omega))); (try (have i_t157 := Imp.go t157 (by omega))); (try (have i_t179 := Imp.go t179 (by omega))); (try (have i_t180 := Imp.go t180 (by omega))); omega)) (show y131.toInt ≤ (V194 0 3).toInt from by first | omega | ((try (have i_t180 := Imp.go t180 (by omega))); (try (have i_t179 := Imp.go t179 (by omega))); (try (have i_t157 := Imp.go t157 (by omega))); (try (have i_t156 := Imp.go t156 (by omega))); (try (have i_t34 := Imp.go t34 (by omega))); (try (have i_t33 := Imp.go t33 (by omega))); (try (have i_t33 := Imp.go t33 (by omega))); (try (have i_t34 := Imp.go t34 (by omega))); (try (have i_t156 := Imp.go t156 (by omega))); (try (have i_t157 := Imp.go t157 (by omega))); (try (have i_t179 := Imp.go t179 (by omega))); (try (have i_t180 := Imp.go t180 (by omega))); omega)) (RTq.tk (t := y5.toInt.toNat) (p := y4.toInt.toNat) (e := y131.toInt.toNat) xlp8_2 hV29 hV194 hL195 (by omega) (by first | omega | ((try (have i_t180 := Imp.go t180 (by omega))); (try (have i_t179 := Imp.go t179 (by omega))); (try (have i_t157 := Imp.go t157 (by omega))); (try (have i_t156 := Imp.go t156 (by omega))); (try (have i_t34 := Imp.go t34 (by omega))); (try (have i_t33 := Imp.go t33 (by omega))); (try (have i_t33 := Imp.go t33 (by omega))); (try (have i_t34 := Imp.go t34 (by omega))); (try (have i_t156 := Imp.go t156 (by omega))); (try (have i_t157 := Imp.go t157 (by omega))); (try (have i_t179 := Imp.go t179 (by omega))); (try (have i_t180 := Imp.go t180 (by omega))); omega)) rfl (by omega) (by rw [ez]; unfold isBl; omega) (Or.inr (Or.inl ⟨hd9, hrun⟩)) ⟨fun q => absurd hd9 (fun z => dg_lt q z), fun _ => ⟨fun _ => by decide, fun h => absurd h (by first | omega | ((try (have i_t180 := Imp.go t180 (by omega))); (try (have i_t179 := Imp.go t179 (by omega))); (try (have i_t157 := Imp.go t157 (by omega))); (try (have i_t156 := Imp.go t156 (by omega))); (try (have i_t34 := Imp.go t34 (by omega))); (try (have i_t33 := Imp.go t33 (by omega))); (try (have i_t33 := Imp.go t33 (by omega))); (try (have i_t34 := Imp.go t34 (by omega))); (try (have i_t156 := Imp.go t156 (by omega))); (try (have i_t157 := Imp.go t157 (by omega))); (try (have i_t179 := Imp.go t179 (by omega))); (try (have i_t180 := Imp.go t180 (by omega))); omega))⟩, fun _ q => absurd hd9 q⟩) (by first | omega | ((try (have i_t180 := Imp.go t180 (by omega))); (try (have i_t179 := Imp.go t179 (by omega))); (try (have i_t157 := Imp.go t157 (by omega))); (try (have i_t156 := Imp.go t156 (by omega))); (try (have i_t34 := Imp.go t34 (by omega))); (try (have i_t33 := Imp.go t33 (by omega))); (try (have i_t33 := Imp.go t33 (by omega))); (try (have i_t34 := Imp.go t34 (by omega))); (try (have i_t156 := Imp.go t156 (by omega))); (try (have i_t157 := Imp.go t157 (by omega))); (try (have i_t179 := Imp.go t179 (by omega))); (try (have i_t180 := Imp.go t180 (by omega))); omega)) alL195 (agr.up (agr.up (agr.tr agr.rf ajV6 (by decide) (by decide)) hV29 rfl) hV194 rfl) hMV194 hP hD hS (lv_sub hl [4, 0, 5] rfl)
                      · skip
                        have f201 : z176.toInt ≠ 0 := b_neq rfl (by decide) c181
                        refine lv_iload_n hx hb dX12_cutAll_102 rfl (lv_at hl 3 rfl) ?_
                        refine lv_iload hx hb dX12_cutAll_103 (lv_at hl 1 rfl) ?_
                        refine lv_isub hx hb dX12_cutAll_105 ?_
                        refine lv_topi (fun z202 ez202 => ?_)
                        have hz202 : z202.toInt = y131.toInt - y4.toInt := i_sub ez202 rfl rfl (by omega)
                        refine lv_bipush (v := 12) hx hb dX12_cutAll_106 (by decide) ?_
                        refine lv_icmp_ge (tgt := 131) hx hb dX12_cutAll_108 (by decide) (fun c203 => ?_) (fun c203 => ?_)
                        · skip
                          have f204 : 12 ≤ z202.toInt := b_le (by decide) rfl c203
                          refine lv_lload hx hb dX12_cutAll_131 (lv_at hl 0 rfl) ?_
                          refine lv_lstore (lv' := [(5, .long y130), (4, .int y4), (3, .int (V 1 (Int32.toNatClampNeg y4))), (2, .int y131), (1, .int y5), (0, .ref (ad 0))]) hx hb dX12_cutAll_133 hl (by decide) rfl (fun ls hl => ?_)
                          obtain ⟨z205, ez205⟩ : ∃ y : Int32, y = y131 + 1 := ⟨_, rfl⟩
                          have hz205 : z205.toInt = y131.toInt + 1 := i_add ez205 rfl (by decide) (by omega)
                          refine lv_iinc (v := z205) (lv' := [(2, .int z205), (5, .long y130), (4, .int y4), (3, .int (V 1 (Int32.toNatClampNeg y4))), (1, .int y5), (0, .ref (ad 0))]) hx hb dX12_cutAll_135 hl (k := 3) rfl (by rw [ez205]; rfl) (by decide) rfl (fun ls hl => ?_)
                          refine lv_goto (tgt := 70) hx hb dX12_cutAll_138 (by decide) ?_
                          have kz206 := i_clamp (x := y131) rfl (by omega)
                          have hld : isLD (V 1 (Int32.toNatClampNeg y131)) := Or.inr (Imp.go t179 (by omega))
                          exact ihlp132 y130 z205 H locs ls (by first | omega | ((try (have i_t180 := Imp.go t180 (by omega))); (try (have i_t179 := Imp.go t179 (by omega))); (try (have i_t157 := Imp.go t157 (by omega))); (try (have i_t156 := Imp.go t156 (by omega))); (try (have i_t34 := Imp.go t34 (by omega))); (try (have i_t33 := Imp.go t33 (by omega))); (try (have i_t33 := Imp.go t33 (by omega))); (try (have i_t34 := Imp.go t34 (by omega))); (try (have i_t156 := Imp.go t156 (by omega))); (try (have i_t157 := Imp.go t157 (by omega))); (try (have i_t179 := Imp.go t179 (by omega))); (try (have i_t180 := Imp.go t180 (by omega))); omega)) (show y4.toInt ≤ z205.toInt from by first | omega | ((try (have i_t180 := Imp.go t180 (by omega))); (try (have i_t179 := Imp.go t179 (by omega))); (try (have i_t157 := Imp.go t157 (by omega))); (try (have i_t156 := Imp.go t156 (by omega))); (try (have i_t34 := Imp.go t34 (by omega))); (try (have i_t33 := Imp.go t33 (by omega))); (try (have i_t33 := Imp.go t33 (by omega))); (try (have i_t34 := Imp.go t34 (by omega))); (try (have i_t156 := Imp.go t156 (by omega))); (try (have i_t157 := Imp.go t157 (by omega))); (try (have i_t179 := Imp.go t179 (by omega))); (try (have i_t180 := Imp.go t180 (by omega))); omega)) (show z205.toInt ≤ (V29 0 3).toInt from by first | omega | ((try (have i_t180 := Imp.go t180 (by omega))); (try (have i_t179 := Imp.go t179 (by omega))); (try (have i_t157 := Imp.go t157 (by omega))); (try (have i_t156 := Imp.go t156 (by omega))); (try (have i_t34 := Imp.go t34 (by omega))); (try (have i_t33 := Imp.go t33 (by omega))); (try (have i_t33 := Imp.go t33 (by omega))); (try (have i_t34 := Imp.go t34 (by omega))); (try (have i_t156 := Imp.go t156 (by omega))); (try (have i_t157 := Imp.go t157 (by omega))); (try (have i_t179 := Imp.go t179 (by omega))); (try (have i_t180 := Imp.go t180 (by omega))); omega)) (fun k a b => by by_cases c : (k : Int) < y131.toInt; exact xlp132_2 k a c; have ek : k = Int32.toNatClampNeg y131 := (by first | omega | ((try (have i_t180 := Imp.go t180 (by omega))); (try (have i_t179 := Imp.go t179 (by omega))); (try (have i_t157 := Imp.go t157 (by omega))); (try (have i_t156 := Imp.go t156 (by omega))); (try (have i_t34 := Imp.go t34 (by omega))); (try (have i_t33 := Imp.go t33 (by omega))); (try (have i_t33 := Imp.go t33 (by omega))); (try (have i_t34 := Imp.go t34 (by omega))); (try (have i_t156 := Imp.go t156 (by omega))); (try (have i_t157 := Imp.go t157 (by omega))); (try (have i_t179 := Imp.go t179 (by omega))); (try (have i_t180 := Imp.go t180 (by omega))); omega)); rw [ek]; exact hld) (fun h9 => absurd h9 (by first | omega | ((try (have i_t180 := Imp.go t180 (by omega))); (try (have i_t179 := Imp.go t179 (by omega))); (try (have i_t157 := Imp.go t157 (by omega))); (try (have i_t156 := Imp.go t156 (by omega))); (try (have i_t34 := Imp.go t34 (by omega))); (try (have i_t33 := Imp.go t33 (by omega))); (try (have i_t33 := Imp.go t33 (by omega))); (try (have i_t34 := Imp.go t34 (by omega))); (try (have i_t156 := Imp.go t156 (by omega))); (try (have i_t157 := Imp.go t157 (by omega))); (try (have i_t179 := Imp.go t179 (by omega))); (try (have i_t180 := Imp.go t180 (by omega))); omega))) (by first | omega | ((try (have i_t180 := Imp.go t180 (by omega))); (try (have i_t179 := Imp.go t179 (by omega))); (try (have i_t157 := Imp.go t157 (by omega))); (try (have i_t156 := Imp.go t156 (by omega))); (try (have i_t34 := Imp.go t34 (by omega))); (try (have i_t33 := Imp.go t33 (by omega))); (try (have i_t33 := Imp.go t33 (by omega))); (try (have i_t34 := Imp.go t34 (by omega))); (try (have i_t156 := Imp.go t156 (by omega))); (try (have i_t157 := Imp.go t157 (by omega))); (try (have i_t179 := Imp.go t179 (by omega))); (try (have i_t180 := Imp.go t180 (by omega))); omega)) hP hD hS (lv_sub hl [1, 2, 3, 0, 4, 5] rfl)
                        · skip
                          have f207 : z202.toInt < 12 := b_nle (by decide) rfl c203
                          refine lv_ldc2 (v := 37) hx hb hown (hg _ w1699) dX12_cutAll_111 ?_
                          refine lv_lload hx hb dX12_cutAll_114 (lv_at hl 0 rfl) ?_
                          refine lv_lmul hx hb dX12_cutAll_116 ?_
                          refine lv_topl (fun w208 ew208 => ?_)
                          refine lv_aload_n hx hb dX12_cutAll_117 rfl (lv_at hl 5 rfl) ?_
                          refine va_get (D := D) (ci := 12) (v := .ref (ad 1)) (C := RX12) (T := TX12) (N := 100) hx hb hg inX12 hown hK hP 0 rfl rfl 1 (by decide) (hg _ w1707) (fun _ h9 => h9) rfl dX12_cutAll_118 ?_
                          refine lv_iload_n hx hb dX12_cutAll_121 rfl (lv_at hl 3 rfl) ?_
                          refine va_iald (D := D) (i := y131) hx hb hK hP 1 0 rfl rfl (i_in (a := y131.toInt) rfl (by first | omega | ((try (have i_t180 := Imp.go t180 (by omega))); (try (have i_t179 := Imp.go t179 (by omega))); (try (have i_t157 := Imp.go t157 (by omega))); (try (have i_t156 := Imp.go t156 (by omega))); (try (have i_t34 := Imp.go t34 (by omega))); (try (have i_t33 := Imp.go t33 (by omega))); (try (have i_t33 := Imp.go t33 (by omega))); (try (have i_t34 := Imp.go t34 (by omega))); (try (have i_t156 := Imp.go t156 (by omega))); (try (have i_t157 := Imp.go t157 (by omega))); (try (have i_t179 := Imp.go t179 (by omega))); (try (have i_t180 := Imp.go t180 (by omega))); omega))) dX12_cutAll_122 ?_
                          refine g_top (v := (V 1 (Int32.toNatClampNeg y131))) ((up2_o hV29 (by decide)).trans ((ajV6 1 (Int32.toNatClampNeg y131) rfl).trans ((up2_o hV3 (by decide)).trans (up2_o hV2 (by decide))))) ?_
                          refine gE_int (g_runS (As := [.int (V 1 (Int32.toNatClampNeg y131))]) (rest := [.long w208]) (wc := []) (tc := []) hx hb hml hown hg gw_self hP hD hK hS hA hnw hgk [] [] (by decide) rfl rfl (s_rank2 l D ks H.size (V 1 (Int32.toNatClampNeg y131)) ) w1700 w1701 w172 w1702 hdS_yX12_rank ⟨Nat.le_of_ble_eq_true rfl, Nat.le_of_ble_eq_true rfl⟩ rfl hl.1 rfl (Nat.le_of_ble_eq_true rfl) dX12_cutAll_123 ⟨Nat.le_of_ble_eq_true rfl, Nat.le_of_ble_eq_true rfl⟩) hP hD hK hS hA (fun z209 u210 H locs w211 hP hD hK hS => ?_)
                          have t212 := w211
                          have t212 : z209 = (if 97 ≤ ((V 1 (Int32.toNatClampNeg y131))).toInt ∧ ((V 1 (Int32.toNatClampNeg y131))).toInt ≤ 122 then (V 1 (Int32.toNatClampNeg y131)) - 96 else (V 1 (Int32.toNatClampNeg y131)) - 21) := t212
                          refine lv_i2l hx hb dX12_cutAll_126 rfl ?_
                          refine lv_topl (fun w213 ew213 => ?_)
                          refine lv_ladd hx hb dX12_cutAll_127 ?_
                          refine lv_topl (fun w214 ew214 => ?_)
                          refine lv_goto (tgt := 133) hx hb dX12_cutAll_128 (by decide) ?_
                          refine lv_lstore (lv' := [(5, .long w214), (4, .int y4), (3, .int (V 1 (Int32.toNatClampNeg y4))), (2, .int y131), (1, .int y5), (0, .ref (ad 0))]) hx hb dX12_cutAll_133 hl (by decide) rfl (fun ls hl => ?_)
                          obtain ⟨z215, ez215⟩ : ∃ y : Int32, y = y131 + 1 := ⟨_, rfl⟩
                          have hz215 : z215.toInt = y131.toInt + 1 := i_add ez215 rfl (by decide) (by omega)
                          refine lv_iinc (v := z215) (lv' := [(2, .int z215), (5, .long w214), (4, .int y4), (3, .int (V 1 (Int32.toNatClampNeg y4))), (1, .int y5), (0, .ref (ad 0))]) hx hb dX12_cutAll_135 hl (k := 3) rfl (by rw [ez215]; rfl) (by decide) rfl (fun ls hl => ?_)
                          refine lv_goto (tgt := 70) hx hb dX12_cutAll_138 (by decide) ?_
                          have kz216 := i_clamp (x := y131) rfl (by omega)
                          have hld : isLD (V 1 (Int32.toNatClampNeg y131)) := Or.inr (Imp.go t179 (by omega))
                          exact ihlp132 w214 z215 H locs ls (by first | omega | ((try (have i_t180 := Imp.go t180 (by omega))); (try (have i_t179 := Imp.go t179 (by omega))); (try (have i_t157 := Imp.go t157 (by omega))); (try (have i_t156 := Imp.go t156 (by omega))); (try (have i_t34 := Imp.go t34 (by omega))); (try (have i_t33 := Imp.go t33 (by omega))); (try (have i_t33 := Imp.go t33 (by omega))); (try (have i_t34 := Imp.go t34 (by omega))); (try (have i_t156 := Imp.go t156 (by omega))); (try (have i_t157 := Imp.go t157 (by omega))); (try (have i_t179 := Imp.go t179 (by omega))); (try (have i_t180 := Imp.go t180 (by omega))); omega)) (show y4.toInt ≤ z215.toInt from by first | omega | ((try (have i_t180 := Imp.go t180 (by omega))); (try (have i_t179 := Imp.go t179 (by omega))); (try (have i_t157 := Imp.go t157 (by omega))); (try (have i_t156 := Imp.go t156 (by omega))); (try (have i_t34 := Imp.go t34 (by omega))); (try (have i_t33 := Imp.go t33 (by omega))); (try (have i_t33 := Imp.go t33 (by omega))); (try (have i_t34 := Imp.go t34 (by omega))); (try (have i_t156 := Imp.go t156 (by omega))); (try (have i_t157 := Imp.go t157 (by omega))); (try (have i_t179 := Imp.go t179 (by omega))); (try (have i_t180 := Imp.go t180 (by omega))); omega)) (show z215.toInt ≤ (V29 0 3).toInt from by first | omega | ((try (have i_t180 := Imp.go t180 (by omega))); (try (have i_t179 := Imp.go t179 (by omega))); (try (have i_t157 := Imp.go t157 (by omega))); (try (have i_t156 := Imp.go t156 (by omega))); (try (have i_t34 := Imp.go t34 (by omega))); (try (have i_t33 := Imp.go t33 (by omega))); (try (have i_t33 := Imp.go t33 (by omega))); (try (have i_t34 := Imp.go t34 (by omega))); (try (have i_t156 := Imp.go t156 (by omega))); (try (have i_t157 := Imp.go t157 (by omega))); (try (have i_t179 := Imp.go t179 (by omega))); (try (have i_t180 := Imp.go t180 (by omega))); omega)) (fun k a b => by by_cases c : (k : Int) < y131.toInt; exact xlp132_2 k a c; have ek : k = Int32.toNatClampNeg y131 := (by first | omega | ((try (have i_t180 := Imp.go t180 (by omega))); (try (have i_t179 := Imp.go t179 (by omega))); (try (have i_t157 := Imp.go t157 (by omega))); (try (have i_t156 := Imp.go t156 (by omega))); (try (have i_t34 := Imp.go t34 (by omega))); (try (have i_t33 := Imp.go t33 (by omega))); (try (have i_t33 := Imp.go t33 (by omega))); (try (have i_t34 := Imp.go t34 (by omega))); (try (have i_t156 := Imp.go t156 (by omega))); (try (have i_t157 := Imp.go t157 (by omega))); (try (have i_t179 := Imp.go t179 (by omega))); (try (have i_t180 := Imp.go t180 (by omega))); omega)); rw [ek]; exact hld) (fun h9 => by rw [show (z215.toInt - y4.toInt).toNat = (y131.toInt - y4.toInt).toNat + 1 from by first | omega | ((try (have i_t180 := Imp.go t180 (by omega))); (try (have i_t179 := Imp.go t179 (by omega))); (try (have i_t157 := Imp.go t157 (by omega))); (try (have i_t156 := Imp.go t156 (by omega))); (try (have i_t34 := Imp.go t34 (by omega))); (try (have i_t33 := Imp.go t33 (by omega))); (try (have i_t33 := Imp.go t33 (by omega))); (try (have i_t34 := Imp.go t34 (by omega))); (try (have i_t156 := Imp.go t156 (by omega))); (try (have i_t157 := Imp.go t157 (by omega))); (try (have i_t179 := Imp.go t179 (by omega))); (try (have i_t180 := Imp.go t180 (by omega))); omega), wv_s, ← xlp132_3 (by first | omega | ((try (have i_t180 := Imp.go t180 (by omega))); (try (have i_t179 := Imp.go t179 (by omega))); (try (have i_t157 := Imp.go t157 (by omega))); (try (have i_t156 := Imp.go t156 (by omega))); (try (have i_t34 := Imp.go t34 (by omega))); (try (have i_t33 := Imp.go t33 (by omega))); (try (have i_t33 := Imp.go t33 (by omega))); (try (have i_t34 := Imp.go t34 (by omega))); (try (have i_t156 := Imp.go t156 (by omega))); (try (have i_t157 := Imp.go t157 (by omega))); (try (have i_t179 := Imp.go t179 (by omega))); (try (have i_t180 := Imp.go t180 (by omega))); omega)), show y4.toInt.toNat + (y131.toInt - y4.toInt).toNat = Int32.toNatClampNeg y131 from by first | omega | ((try (have i_t180 := Imp.go t180 (by omega))); (try (have i_t179 := Imp.go t179 (by omega))); (try (have i_t157 := Imp.go t157 (by omega))); (try (have i_t156 := Imp.go t156 (by omega))); (try (have i_t34 := Imp.go t34 (by omega))); (try (have i_t33 := Imp.go t33 (by omega))); (try (have i_t33 := Imp.go t33 (by omega))); (try (have i_t34 := Imp.go t34 (by omega))); (try (have i_t156 := Imp.go t156 (by omega))); (try (have i_t157 := Imp.go t157 (by omega))); (try (have i_t179 := Imp.go t179 (by omega))); (try (have i_t180 := Imp.go t180 (by omega))); omega)]; exact ew214.trans (by rw [ew208, ew213, t212, rk_cd hld, Int64.mul_comm])) (by first | omega | ((try (have i_t180 := Imp.go t180 (by omega))); (try (have i_t179 := Imp.go t179 (by omega))); (try (have i_t157 := Imp.go t157 (by omega))); (try (have i_t156 := Imp.go t156 (by omega))); (try (have i_t34 := Imp.go t34 (by omega))); (try (have i_t33 := Imp.go t33 (by omega))); (try (have i_t33 := Imp.go t33 (by omega))); (try (have i_t34 := Imp.go t34 (by omega))); (try (have i_t156 := Imp.go t156 (by omega))); (try (have i_t157 := Imp.go t157 (by omega))); (try (have i_t179 := Imp.go t179 (by omega))); (try (have i_t180 := Imp.go t180 (by omega))); omega)) hP hD hS (lv_sub hl [1, 2, 3, 0, 4, 5] rfl)
              have pq217 : (V29 0 3).toInt = ((V 0 2)).toInt := congrArg Int32.toInt ((up2_o hV29 (by decide)).trans ((ajV6 0 3 rfl).trans ((up2_k hV3 (by decide)).trans (up2_s hV2))))
              exact lp132 (((V29 0 3).toInt - y4.toInt + 1 : Int).toNat) 0 y4 H locs ls (by first | omega | ((try (have i_t34 := Imp.go t34 (by omega))); (try (have i_t33 := Imp.go t33 (by omega))); (try (have i_t33 := Imp.go t33 (by omega))); (try (have i_t34 := Imp.go t34 (by omega))); omega)) (show y4.toInt ≤ y4.toInt from by first | omega | ((try (have i_t34 := Imp.go t34 (by omega))); (try (have i_t33 := Imp.go t33 (by omega))); (try (have i_t33 := Imp.go t33 (by omega))); (try (have i_t34 := Imp.go t34 (by omega))); omega)) (show y4.toInt ≤ (V29 0 3).toInt from by first | omega | ((try (have i_t34 := Imp.go t34 (by omega))); (try (have i_t33 := Imp.go t33 (by omega))); (try (have i_t33 := Imp.go t33 (by omega))); (try (have i_t34 := Imp.go t34 (by omega))); omega)) (fun k a b => absurd a (by omega)) (fun _ => by rw [show (y4.toInt - y4.toInt).toNat = 0 from by omega]; rfl) (by first | omega | ((try (have i_t34 := Imp.go t34 (by omega))); (try (have i_t33 := Imp.go t33 (by omega))); (try (have i_t33 := Imp.go t33 (by omega))); (try (have i_t34 := Imp.go t34 (by omega))); omega)) hP hD hS (lv_sub hl [0, 1, 2, 3, 4, 5] rfl)
          · skip
            have f218 : ((V 1 (Int32.toNatClampNeg y4))).toInt = 32 := b_eq rfl (by decide) c27
            obtain ⟨z219, ez219⟩ : ∃ y : Int32, y = y4 + 1 := ⟨_, rfl⟩
            have hz219 : z219.toInt = y4.toInt + 1 := i_add ez219 rfl (by decide) (by omega)
            refine lv_iinc (v := z219) (lv' := [(2, .int z219), (3, .int (V 1 (Int32.toNatClampNeg y4))), (1, .int y5), (0, .ref (ad 0))]) hx hb dX12_cutAll_44 hl (k := 1) rfl (by rw [ez219]; rfl) (by decide) rfl (fun ls hl => ?_)
            refine lv_goto (tgt := 17) hx hb dX12_cutAll_47 (by decide) ?_
            have kz220 := i_clamp (x := y4) rfl (by omega)
            have ez : y4.toInt.toNat = Int32.toNatClampNeg y4 := by omega
            exact ihlp8 z219 y5 V6 L7 H locs ls (by omega) (by omega) (show y5.toInt ≤ z219.toInt from by omega) (show z219.toInt ≤ (V6 0 3).toInt from by omega) (RTq.bl xlp8_2 (by omega) (by omega) (by rw [ez]; unfold isBl; omega)) (by omega) alL7 (agr.tr agr.rf ajV6 (by decide) (by decide)) hMV6 hP hD hS (lv_sub hl [0, 2, 3] rfl)
  have r221 : Int32.toInt 0 = 0 := by decide
  have pq222 : (V3 0 3).toInt = ((V 0 2)).toInt := congrArg Int32.toInt ((up2_k hV3 (by decide)).trans (up2_s hV2))
  exact lp8 (((V3 0 3).toInt - (Int32.toInt 0) + 1 : Int).toNat) 0 0 V3 L H locs ls (by decide) (by decide) (show (Int32.toInt 0) ≤ (Int32.toInt 0) from by omega) (show (Int32.toInt 0) ≤ (V3 0 3).toInt from by omega) (RTq.z) (by omega) alL agr.rf hMV3 hP hD hS (lv_sub hl [0, 1, 2] rfl)
