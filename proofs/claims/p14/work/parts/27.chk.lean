/-! which components are there; the first candidate -/
theorem agr.sy {fs : List (Nat × Nat)} {cs : List Nat} {V W : Vf} (h : agr fs cs V W) : agr fs cs W V := fun c k q => (h c k q).symm
def nwh (V : Vf) : Nat := Int32.toNatClampNeg (V 0 11)
def th (V : Vf) (c : Nat) : Prop := (c : Int) < (V 19 (nwh V)).toInt ∧ ((V 25 (24 * nwh V + c)).toInt < 0 ∨ V 18 (12 * nwh V + (V 25 (24 * nwh V + c)).toInt.toNat) = V 26 (24 * nwh V + c))
/-- none of the cells that say what there is was written -/
def thC (fs : List (Nat × Nat)) (cs : List Nat) : Prop := wrL fs cs 0 11 = false ∧ (∀ k, wrL fs cs 18 k = false) ∧ (∀ k, wrL fs cs 19 k = false) ∧ (∀ k, wrL fs cs 25 k = false) ∧ (∀ k, wrL fs cs 26 k = false) ∧ (∀ k, wrL fs cs 27 k = false) ∧ (∀ k, wrL fs cs 29 k = false)
theorem th.ag {fs : List (Nat × Nat)} {cs : List Nat} {V W : Vf} {c : Nat} (h : th V c) (a : agr fs cs V W) (q : thC fs cs) : th W c := by
  have e : nwh W = nwh V := by unfold nwh; rw [a 0 11 q.1]
  unfold th at h ⊢
  rw [e, a _ _ (q.2.2.1 _), a _ _ (q.2.2.2.1 _), a _ _ (q.2.1 _), a _ _ (q.2.2.2.2.1 _)]
  exact h
/-- a late need of a component -/
def ndL (V : Vf) (c k : Nat) : Prop := (k : Int) < (V 27 (24 * nwh V + c)).toInt ∧ (V 29 (8 * (24 * nwh V + c) + k)).toInt = 1
theorem ndL.ag {fs : List (Nat × Nat)} {cs : List Nat} {V W : Vf} {c k : Nat} (h : ndL V c k) (a : agr fs cs V W) (q : thC fs cs) : ndL W c k := by
  have e : nwh W = nwh V := by unfold nwh; rw [a 0 11 q.1]
  unfold ndL at h ⊢
  rw [e, a _ _ (q.2.2.2.2.2.1 _), a _ _ (q.2.2.2.2.2.2 _)]
  exact h
def cd0 (V : Vf) : Nat := Int32.toNatClampNeg (V 80 0)
def c0k (V W : Vf) : Prop := W 80 0 = V 80 0 ∨ th V (cd0 W)
theorem c0k.rf {V : Vf} : c0k V V := Or.inl rfl
theorem c0k.ag {fs : List (Nat × Nat)} {cs : List Nat} {V W : Vf} (a : agr fs cs V W) (h : wrL fs cs 80 0 = false) : c0k V W := Or.inl (a 80 0 h)
theorem c0k.tr {fs : List (Nat × Nat)} {cs : List Nat} {V W X : Vf} (h : c0k V W) (h2 : c0k W X) (a : agr fs cs V W) (q : thC fs cs) : c0k V X := by
  rcases h2 with h2 | h2
  · rcases h with h | h
    · exact Or.inl (h2.trans h)
    · right
      unfold cd0 at h ⊢
      rw [h2]
      exact h
  · exact Or.inr (h2.ag a.sy q)
/-- the first candidate is there, or nobody wants it: among the components below l, and of component l below need k -/
def DD (V : Vf) (l k : Int) : Prop := th V (cd0 V) ∨ ∀ c j : Nat, ((c : Int) < l ∨ ((c : Int) = l ∧ (j : Int) < k)) → th V c → ¬ ndL V c j
theorem DD.st {fs : List (Nat × Nat)} {cs : List Nat} {V W : Vf} {l k : Int} (h : DD V l k) (a : agr fs cs V W) (q : thC fs cs) (c0 : c0k V W) : DD W l k := by
  rcases h with h | h
  · rcases c0 with c0 | c0
    · left
      have e : cd0 W = cd0 V := by unfold cd0; rw [c0]
      rw [e]
      exact h.ag a q
    · exact Or.inl (c0.ag a q)
  · exact Or.inr (fun c j hc ht hn => h c j hc (ht.ag a.sy q) (hn.ag a.sy q))
def RD (V : Vf) : Prop := (V 0 54).toInt = 1 → th V (cd0 V) ∨ ∀ c j : Nat, th V c → ¬ ndL V c j


abbrev r_s_isThere2 : Room := { frames := 0, cells := 0, slots := 0, locals := 0 }
abbrev q_s_isThere2 (D : va_G) (ks : KS) (ad : Nat → Nat) (kk : Nat → ClassId) (V : Vf) (L : Lf) (p0 : Int32) (A : Nat → Prop) : Array Value → State → Outcome → State → Prop := va_Qi (fun (r : Int32) (_ : Unit) => (0 ≤ r.toInt ∧ r.toInt ≤ 1) ∧ (Imp (r.toInt = 1) (0 ≤ p0.toInt ∧ p0.toInt ≤ 23)) ∧ (Imp (r.toInt = 1) (th V (Int32.toNatClampNeg p0))) ∧ (Imp (r.toInt = 0) (0 ≤ p0.toInt → ¬ th V (Int32.toNatClampNeg p0)))) (fun _ t => gq D A (mw ad kk ks.1 V L) (mty kk) t) A
set_option maxHeartbeats 4000000 in
set_option maxRecDepth 100000 in
theorem s_isThere2 (l : Launch) (D : va_G) (ks : KS) (sz : Nat) (ad : Nat → Nat) (kk : Nat → ClassId) (V : Vf) (L : Lf) (p0 : Int32) (hMV : rgd bM V)  : Met l yX12_isThere (Cond.code yX12_isThere cX12_isThere 3 (some .boolean) :: GW) r_s_isThere2 (va_Pc [.ref (ad 0), .int p0] (gp D ks (mw ad kk ks.1 V L) (mty kk) sz)) (q_s_isThere2 D ks ad kk V L p0 (va_A (mw ad kk ks.1 V L) sz)) 0 0 (va_A (mw ad kk ks.1 V L) sz) := by
  refine g_met (q_s_isThere2 D ks ad kk V L p0) (by decide) (Nat.le_of_ble_eq_true rfl) ?_
  intro p e s m below meth c A ls H locs hx hb hr hml hown hg hlocks hin hnw hgk hP hK hD hS hA hl
  have hown : s.vm.findClass RX12 = some m.cls := hown
  have hl : lv_has ls 3 [(0, .ref (ad 0)), (1, .int p0)] := hl
  have hP : va_P D vwCl (mw ad kk ks.1 V L) H := hP
  have hD : va_D A (mw ad kk ks.1 V L) := hD
  have hK : va_K D vwCl (mty kk) s := hK
  refine lv_bipush (v := 24) hx hb dX12_isThere_0 (by decide) ?_
  refine lv_aload_n hx hb dX12_isThere_2 rfl (lv_at hl 0 rfl) ?_
  refine va_get (D := D) (ci := 12) (v := .int (V 0 11)) (C := RX12) (T := TX12) (N := 100) hx hb hg inX12 hown hK hP 0 rfl rfl 11 (by decide) (hg _ w1717) (fun _ h9 => h9) rfl dX12_isThere_3 ?_
  have r1 : 0 ≤ ((V 0 11)).toInt ∧ ((V 0 11)).toInt ≤ 1 := hMV 0 11
  refine lv_imul hx hb dX12_isThere_6 ?_
  refine lv_topi (fun z2 ez2 => ?_)
  have hz2 : z2.toInt = 24 * ((V 0 11)).toInt := i_mul ez2 (by decide) rfl (by omega)
  refine lv_iload_n hx hb dX12_isThere_7 rfl (lv_at hl 1 rfl) ?_
  refine lv_iadd hx hb dX12_isThere_8 ?_
  have r3 := i_full p0
  refine lv_topi (fun z4 ez4 => ?_)
  have hz4 : Imp (-2147483648 ≤ z2.toInt + p0.toInt ∧ z2.toInt + p0.toInt ≤ 2147483647) (z4.toInt = z2.toInt + p0.toInt) := Imp.mk (fun hp => i_add ez4 rfl rfl hp)
  refine lv_istore_n (lv' := [(2, .int z4), (0, .ref (ad 0)), (1, .int p0)]) hx hb dX12_isThere_9 rfl hl (by decide) rfl (fun ls hl => ?_)
  refine lv_iload_n hx hb dX12_isThere_10 rfl (lv_at hl 2 rfl) ?_
  refine lv_if_lt (tgt := 68) hx hb dX12_isThere_11 (by decide) (fun c5 => ?_) (fun c5 => ?_)
  · skip
    have f6 : p0.toInt < 0 := b_lt rfl (by decide) c5
    refine lv_iconst (v := 0) hx hb dX12_isThere_68 (by decide) ?_
    exact W.zret (v := 0) hx hb hr rfl (fun t ht hW => ⟨⟨0, (), rfl, ⟨(by decide), (Imp.mk (fun hp => absurd hp (by decide))), (Imp.mk (fun hp => absurd hp (by decide))), (Imp.mk (fun _ h0 _ => absurd h0 (by omega)))⟩, by rw [ht]; exact hP, va_K.moved hW.alike hK, hD⟩, hS.F ht⟩) hS.2.2 dX12_isThere_69
  · skip
    have f7 : 0 ≤ p0.toInt := b_nlt rfl (by decide) c5
    refine lv_iload_n hx hb dX12_isThere_14 rfl (lv_at hl 2 rfl) ?_
    refine lv_aload_n hx hb dX12_isThere_15 rfl (lv_at hl 1 rfl) ?_
    refine va_get (D := D) (ci := 12) (v := .ref (ad 19)) (C := RX12) (T := TX12) (N := 100) hx hb hg inX12 hown hK hP 0 rfl rfl 19 (by decide) (hg _ w1725) (fun _ h9 => h9) rfl dX12_isThere_16 ?_
    refine lv_aload_n hx hb dX12_isThere_19 rfl (lv_at hl 1 rfl) ?_
    refine va_get (D := D) (ci := 12) (v := .int (V 0 11)) (C := RX12) (T := TX12) (N := 100) hx hb hg inX12 hown hK hP 0 rfl rfl 11 (by decide) (hg _ w1717) (fun _ h9 => h9) rfl dX12_isThere_20 ?_
    refine va_iald (D := D) (i := (V 0 11)) hx hb hK hP 12 11 rfl rfl (i_in (a := ((V 0 11)).toInt) rfl (by first | omega | ((try (have i_hz4 := Imp.go hz4 (by omega))); omega))) dX12_isThere_23 ?_
    have r8 : 0 ≤ ((V 19 (Int32.toNatClampNeg (V 0 11)))).toInt ∧ ((V 19 (Int32.toNatClampNeg (V 0 11)))).toInt ≤ 24 := hMV 19 (Int32.toNatClampNeg (V 0 11))
    refine lv_icmp_ge (tgt := 68) hx hb dX12_isThere_24 (by decide) (fun c9 => ?_) (fun c9 => ?_)
    · skip
      have f10 : ((V 19 (Int32.toNatClampNeg (V 0 11)))).toInt ≤ p0.toInt := b_le rfl rfl c9
      refine lv_iconst (v := 0) hx hb dX12_isThere_68 (by decide) ?_
      have k0 := i_clamp (x := p0) rfl (by omega)
      have kn : (nwh V : Int) = (V 0 11).toInt := i_clamp (x := V 0 11) rfl (by omega)
      have q19 : (V 19 (nwh V)).toInt = (V 19 (Int32.toNatClampNeg (V 0 11))).toInt := rfl
      exact W.zret (v := 0) hx hb hr rfl (fun t ht hW => ⟨⟨0, (), rfl, ⟨(by decide), (Imp.mk (fun hp => absurd hp (by decide))), (Imp.mk (fun hp => absurd hp (by decide))), (Imp.mk (fun _ _ ht => by have h9 := ht.1; omega))⟩, by rw [ht]; exact hP, va_K.moved hW.alike hK, hD⟩, hS.F ht⟩) hS.2.2 dX12_isThere_69
    · skip
      have f11 : p0.toInt < ((V 19 (Int32.toNatClampNeg (V 0 11)))).toInt := b_nle rfl rfl c9
      refine lv_aload_n hx hb dX12_isThere_27 rfl (lv_at hl 1 rfl) ?_
      refine va_get (D := D) (ci := 12) (v := .ref (ad 25)) (C := RX12) (T := TX12) (N := 100) hx hb hg inX12 hown hK hP 0 rfl rfl 25 (by decide) (hg _ w1731) (fun _ h9 => h9) rfl dX12_isThere_28 ?_
      refine lv_iload_n hx hb dX12_isThere_31 rfl (lv_at hl 0 rfl) ?_
      refine va_iald (D := D) (i := z4) hx hb hK hP 18 17 rfl rfl (i_in (a := z4.toInt) rfl (by first | omega | ((try (have i_hz4 := Imp.go hz4 (by omega))); omega))) dX12_isThere_32 ?_
      have r12 : (-1) ≤ ((V 25 (Int32.toNatClampNeg z4))).toInt ∧ ((V 25 (Int32.toNatClampNeg z4))).toInt ≤ 11 := hMV 25 (Int32.toNatClampNeg z4)
      refine lv_if_lt (tgt := 64) hx hb dX12_isThere_33 (by decide) (fun c13 => ?_) (fun c13 => ?_)
      · skip
        have f14 : ((V 25 (Int32.toNatClampNeg z4))).toInt < 0 := b_lt rfl (by decide) c13
        refine lv_iconst (v := 1) hx hb dX12_isThere_64 (by decide) ?_
        refine lv_goto (tgt := 69) hx hb dX12_isThere_65 (by decide) ?_
        have k0 := i_clamp (x := p0) rfl (by omega)
        have kn : (nwh V : Int) = (V 0 11).toInt := i_clamp (x := V 0 11) rfl (by omega)
        have k1 : Int32.toNatClampNeg z4 = 24 * nwh V + Int32.toNatClampNeg p0 := by have hz9 : z4.toInt = 24 * (V 0 11).toInt + p0.toInt := (by first | omega | ((try (have i_hz4 := Imp.go hz4 (by omega))); omega)); have h9 := i_clamp (x := z4) rfl (by omega); omega
        have q19 : (V 19 (nwh V)).toInt = (V 19 (Int32.toNatClampNeg (V 0 11))).toInt := rfl
        have q25 : (V 25 (24 * nwh V + Int32.toNatClampNeg p0)).toInt = (V 25 (Int32.toNatClampNeg z4)).toInt := by rw [k1]
        exact W.zret (v := 1) hx hb hr rfl (fun t ht hW => ⟨⟨1, (), rfl, ⟨(by decide), (Imp.mk (fun _ => (show 0 ≤ p0.toInt ∧ p0.toInt ≤ 23 from by first | omega | ((try (have i_hz4 := Imp.go hz4 (by omega))); omega)))), (Imp.mk (fun _ => ⟨by omega, Or.inl (by omega)⟩)), (Imp.mk (fun hp => absurd hp (by decide)))⟩, by rw [ht]; exact hP, va_K.moved hW.alike hK, hD⟩, hS.F ht⟩) hS.2.2 dX12_isThere_69
      · skip
        have f15 : 0 ≤ ((V 25 (Int32.toNatClampNeg z4))).toInt := b_nlt rfl (by decide) c13
        refine lv_aload_n hx hb dX12_isThere_36 rfl (lv_at hl 1 rfl) ?_
        refine va_get (D := D) (ci := 12) (v := .ref (ad 18)) (C := RX12) (T := TX12) (N := 100) hx hb hg inX12 hown hK hP 0 rfl rfl 18 (by decide) (hg _ w1724) (fun _ h9 => h9) rfl dX12_isThere_37 ?_
        refine lv_bipush (v := 12) hx hb dX12_isThere_40 (by decide) ?_
        refine lv_aload_n hx hb dX12_isThere_42 rfl (lv_at hl 1 rfl) ?_
        refine va_get (D := D) (ci := 12) (v := .int (V 0 11)) (C := RX12) (T := TX12) (N := 100) hx hb hg inX12 hown hK hP 0 rfl rfl 11 (by decide) (hg _ w1717) (fun _ h9 => h9) rfl dX12_isThere_43 ?_
        refine lv_imul hx hb dX12_isThere_46 ?_
        refine lv_topi (fun z16 ez16 => ?_)
        have hz16 : z16.toInt = 12 * ((V 0 11)).toInt := i_mul ez16 (by decide) rfl (by omega)
        refine lv_aload_n hx hb dX12_isThere_47 rfl (lv_at hl 1 rfl) ?_
        refine va_get (D := D) (ci := 12) (v := .ref (ad 25)) (C := RX12) (T := TX12) (N := 100) hx hb hg inX12 hown hK hP 0 rfl rfl 25 (by decide) (hg _ w1731) (fun _ h9 => h9) rfl dX12_isThere_48 ?_
        refine lv_iload_n hx hb dX12_isThere_51 rfl (lv_at hl 0 rfl) ?_
        refine va_iald (D := D) (i := z4) hx hb hK hP 18 17 rfl rfl (i_in (a := z4.toInt) rfl (by first | omega | ((try (have i_hz4 := Imp.go hz4 (by omega))); omega))) dX12_isThere_52 ?_
        refine lv_iadd hx hb dX12_isThere_53 ?_
        refine lv_topi (fun z17 ez17 => ?_)
        have hz17 : z17.toInt = z16.toInt + ((V 25 (Int32.toNatClampNeg z4))).toInt := i_add ez17 rfl rfl (by omega)
        refine va_iald (D := D) (i := z17) hx hb hK hP 11 10 rfl rfl (i_in (a := z17.toInt) rfl (by first | omega | ((try (have i_hz4 := Imp.go hz4 (by omega))); omega))) dX12_isThere_54 ?_
        refine lv_aload_n hx hb dX12_isThere_55 rfl (lv_at hl 1 rfl) ?_
        refine va_get (D := D) (ci := 12) (v := .ref (ad 26)) (C := RX12) (T := TX12) (N := 100) hx hb hg inX12 hown hK hP 0 rfl rfl 26 (by decide) (hg _ w1732) (fun _ h9 => h9) rfl dX12_isThere_56 ?_
        refine lv_iload_n hx hb dX12_isThere_59 rfl (lv_at hl 0 rfl) ?_
        refine va_iald (D := D) (i := z4) hx hb hK hP 19 18 rfl rfl (i_in (a := z4.toInt) rfl (by first | omega | ((try (have i_hz4 := Imp.go hz4 (by omega))); omega))) dX12_isThere_60 ?_
        refine lv_icmp_ne (tgt := 68) hx hb dX12_isThere_61 (by decide) (fun c18 => ?_) (fun c18 => ?_)
        · skip
          have f19 : ((V 18 (Int32.toNatClampNeg z17))).toInt ≠ ((V 26 (Int32.toNatClampNeg z4))).toInt := b_neq rfl rfl c18
          refine lv_iconst (v := 0) hx hb dX12_isThere_68 (by decide) ?_
          have k0 := i_clamp (x := p0) rfl (by omega)
          have kn : (nwh V : Int) = (V 0 11).toInt := i_clamp (x := V 0 11) rfl (by omega)
          have k1 : Int32.toNatClampNeg z4 = 24 * nwh V + Int32.toNatClampNeg p0 := by have hz9 : z4.toInt = 24 * (V 0 11).toInt + p0.toInt := (by first | omega | ((try (have i_hz4 := Imp.go hz4 (by omega))); omega)); have h9 := i_clamp (x := z4) rfl (by omega); omega
          have q19 : (V 19 (nwh V)).toInt = (V 19 (Int32.toNatClampNeg (V 0 11))).toInt := rfl
          have q25 : (V 25 (24 * nwh V + Int32.toNatClampNeg p0)).toInt = (V 25 (Int32.toNatClampNeg z4)).toInt := by rw [k1]
          have k2 : Int32.toNatClampNeg z17 = 12 * nwh V + (V 25 (24 * nwh V + Int32.toNatClampNeg p0)).toInt.toNat := by have h9 := i_clamp (x := z17) rfl (by omega); omega
          have q18 : V 18 (12 * nwh V + (V 25 (24 * nwh V + Int32.toNatClampNeg p0)).toInt.toNat) = V 18 (Int32.toNatClampNeg z17) := by rw [k2]
          have q26 : V 26 (24 * nwh V + Int32.toNatClampNeg p0) = V 26 (Int32.toNatClampNeg z4) := by rw [k1]
          exact W.zret (v := 0) hx hb hr rfl (fun t ht hW => ⟨⟨0, (), rfl, ⟨(by decide), (Imp.mk (fun hp => absurd hp (by decide))), (Imp.mk (fun hp => absurd hp (by decide))), (Imp.mk (fun _ _ ht => by rcases ht.2 with h9 | h9; omega; (rw [q18, q26] at h9; have h8 := congrArg Int32.toInt h9; omega)))⟩, by rw [ht]; exact hP, va_K.moved hW.alike hK, hD⟩, hS.F ht⟩) hS.2.2 dX12_isThere_69
        · skip
          have f20 : ((V 18 (Int32.toNatClampNeg z17))).toInt = ((V 26 (Int32.toNatClampNeg z4))).toInt := b_eq rfl rfl c18
          refine lv_iconst (v := 1) hx hb dX12_isThere_64 (by decide) ?_
          refine lv_goto (tgt := 69) hx hb dX12_isThere_65 (by decide) ?_
          have k0 := i_clamp (x := p0) rfl (by omega)
          have kn : (nwh V : Int) = (V 0 11).toInt := i_clamp (x := V 0 11) rfl (by omega)
          have k1 : Int32.toNatClampNeg z4 = 24 * nwh V + Int32.toNatClampNeg p0 := by have hz9 : z4.toInt = 24 * (V 0 11).toInt + p0.toInt := (by first | omega | ((try (have i_hz4 := Imp.go hz4 (by omega))); omega)); have h9 := i_clamp (x := z4) rfl (by omega); omega
          have q19 : (V 19 (nwh V)).toInt = (V 19 (Int32.toNatClampNeg (V 0 11))).toInt := rfl
          have q25 : (V 25 (24 * nwh V + Int32.toNatClampNeg p0)).toInt = (V 25 (Int32.toNatClampNeg z4)).toInt := by rw [k1]
          have k2 : Int32.toNatClampNeg z17 = 12 * nwh V + (V 25 (24 * nwh V + Int32.toNatClampNeg p0)).toInt.toNat := by have h9 := i_clamp (x := z17) rfl (by omega); omega
          have q18 : V 18 (12 * nwh V + (V 25 (24 * nwh V + Int32.toNatClampNeg p0)).toInt.toNat) = V 18 (Int32.toNatClampNeg z17) := by rw [k2]
          have q26 : V 26 (24 * nwh V + Int32.toNatClampNeg p0) = V 26 (Int32.toNatClampNeg z4) := by rw [k1]
          exact W.zret (v := 1) hx hb hr rfl (fun t ht hW => ⟨⟨1, (), rfl, ⟨(by decide), (Imp.mk (fun _ => (show 0 ≤ p0.toInt ∧ p0.toInt ≤ 23 from by first | omega | ((try (have i_hz4 := Imp.go hz4 (by omega))); omega)))), (Imp.mk (fun _ => ⟨by omega, Or.inr (by rw [q18, q26]; exact Int32.toInt_inj.mp (by omega))⟩)), (Imp.mk (fun hp => absurd hp (by decide)))⟩, by rw [ht]; exact hP, va_K.moved hW.alike hK, hD⟩, hS.F ht⟩) hS.2.2 dX12_isThere_69
abbrev r_s_suits2 : Room := { frames := 1, cells := 0, slots := 0, locals := 22 }
abbrev q_s_suits2 (D : va_G) (ks : KS) (ad : Nat → Nat) (kk : Nat → ClassId) (V : Vf) (L : Lf) (p0 : Int32) (p1 : Int32) (A : Nat → Prop) : Array Value → State → Outcome → State → Prop := va_Qi (fun (r : Int32) (_ : Unit) => (0 ≤ r.toInt ∧ r.toInt ≤ 1) ∧ (Imp (r.toInt = 1) (th V (Int32.toNatClampNeg p1)))) (fun _ t => gq D A (mw ad kk ks.1 V L) (mty kk) t) A
set_option maxHeartbeats 4000000 in
set_option maxRecDepth 100000 in
theorem s_suits2 (l : Launch) (D : va_G) (ks : KS) (sz : Nat) (ad : Nat → Nat) (kk : Nat → ClassId) (V : Vf) (L : Lf) (p0 : Int32) (p1 : Int32) (hMV : rgd bM V) (rg_p0 : 0 ≤ p0.toInt ∧ p0.toInt ≤ 383) (rg_p1 : 0 ≤ p1.toInt ∧ p1.toInt ≤ 23) (y1 : 0 ≤ (V 28 (Int32.toNatClampNeg p0)).toInt)  : Met l yX12_suits (Cond.code yX12_suits cX12_suits 4 (some .boolean) :: GW) r_s_suits2 (va_Pc [.ref (ad 0), .int p0, .int p1] (gp D ks (mw ad kk ks.1 V L) (mty kk) sz)) (q_s_suits2 D ks ad kk V L p0 p1 (va_A (mw ad kk ks.1 V L) sz)) 0 0 (va_A (mw ad kk ks.1 V L) sz) := by
  refine g_met (q_s_suits2 D ks ad kk V L p0 p1) (by decide) (Nat.le_of_ble_eq_true rfl) ?_
  intro p e s m below meth c A ls H locs hx hb hr hml hown hg hlocks hin hnw hgk hP hK hD hS hA hl
  have hown : s.vm.findClass RX12 = some m.cls := hown
  have hl : lv_has ls 4 [(0, .ref (ad 0)), (1, .int p0), (2, .int p1)] := hl
  have hP : va_P D vwCl (mw ad kk ks.1 V L) H := hP
  have hD : va_D A (mw ad kk ks.1 V L) := hD
  have hK : va_K D vwCl (mty kk) s := hK
  have r1 : (-1) ≤ ((V 28 (Int32.toNatClampNeg p0))).toInt ∧ ((V 28 (Int32.toNatClampNeg p0))).toInt ≤ 23 := hMV 28 (Int32.toNatClampNeg p0)
  refine lv_bipush (v := 24) hx hb dX12_suits_0 (by decide) ?_
  refine lv_aload_n hx hb dX12_suits_2 rfl (lv_at hl 0 rfl) ?_
  refine va_get (D := D) (ci := 12) (v := .int (V 0 11)) (C := RX12) (T := TX12) (N := 100) hx hb hg inX12 hown hK hP 0 rfl rfl 11 (by decide) (hg _ w1717) (fun _ h9 => h9) rfl dX12_suits_3 ?_
  have r2 : 0 ≤ ((V 0 11)).toInt ∧ ((V 0 11)).toInt ≤ 1 := hMV 0 11
  refine lv_imul hx hb dX12_suits_6 ?_
  refine lv_topi (fun z3 ez3 => ?_)
  have hz3 : z3.toInt = 24 * ((V 0 11)).toInt := i_mul ez3 (by decide) rfl (by omega)
  refine lv_iload_n hx hb dX12_suits_7 rfl (lv_at hl 2 rfl) ?_
  refine lv_iadd hx hb dX12_suits_8 ?_
  refine lv_topi (fun z4 ez4 => ?_)
  have hz4 : z4.toInt = z3.toInt + p1.toInt := i_add ez4 rfl rfl (by omega)
  refine lv_istore_n (lv' := [(3, .int z4), (0, .ref (ad 0)), (1, .int p0), (2, .int p1)]) hx hb dX12_suits_9 rfl hl (by decide) rfl (fun ls hl => ?_)
  refine lv_aload_n hx hb dX12_suits_10 rfl (lv_at hl 1 rfl) ?_
  refine lv_iload_n hx hb dX12_suits_11 rfl (lv_at hl 3 rfl) ?_
  refine gA_int (gA_runV (As := [.int p1]) (rest := []) (ci := 12) (q0 := 0) hx hb hml hown hg hP hD hK hS hA hnw hgk (s_isThere2 l D ks H.size ad kk V L p1 hMV ) w2164 w2166 w117 w172 w2167 rfl rfl hdV_yX12_isThere ⟨Nat.le_of_ble_eq_true rfl, Nat.le_of_ble_eq_true rfl⟩ rfl hl.1 rfl (Nat.le_of_ble_eq_true rfl) dX12_suits_12 ⟨Nat.le_of_ble_eq_true rfl, Nat.le_of_ble_eq_true rfl⟩) hP hD hK hS hA (fun z5 u6 H locs w7 hP hD hK hS => ?_)
  obtain ⟨rgz5, t8, t9, t10⟩ := w7
  have rgz5 : 0 ≤ z5.toInt ∧ z5.toInt ≤ 1 := rgz5
  have t8 : Imp (z5.toInt = 1) (0 ≤ p1.toInt ∧ p1.toInt ≤ 23) := t8
  have t9 : Imp (z5.toInt = 1) (th V (Int32.toNatClampNeg p1)) := t9
  have t10 : Imp (z5.toInt = 0) (0 ≤ p1.toInt → ¬ th V (Int32.toNatClampNeg p1)) := t10
  refine lv_if_eq (tgt := 65) hx hb dX12_suits_15 (by decide) (fun c11 => ?_) (fun c11 => ?_)
  · skip
    have f12 : z5.toInt = 0 := b_eq rfl (by decide) c11
    refine lv_iconst (v := 0) hx hb dX12_suits_65 (by decide) ?_
    exact W.zret (v := 0) hx hb hr rfl (fun t ht hW => ⟨⟨0, (), rfl, ⟨(by decide), (Imp.mk (fun hp => absurd hp (by decide)))⟩, by rw [ht]; exact hP, va_K.moved hW.alike hK, hD⟩, hS.F ht⟩) hS.2.2 dX12_suits_66
  · skip
    have f13 : z5.toInt ≠ 0 := b_neq rfl (by decide) c11
    refine lv_aload_n hx hb dX12_suits_18 rfl (lv_at hl 1 rfl) ?_
    refine va_get (D := D) (ci := 12) (v := .ref (ad 21)) (C := RX12) (T := TX12) (N := 100) hx hb hg inX12 hown hK hP 0 rfl rfl 21 (by decide) (hg _ w1727) (fun _ h9 => h9) rfl dX12_suits_19 ?_
    refine lv_bipush (v := 24) hx hb dX12_suits_22 (by decide) ?_
    refine lv_iload_n hx hb dX12_suits_24 rfl (lv_at hl 0 rfl) ?_
    refine lv_imul hx hb dX12_suits_25 ?_
    refine lv_topi (fun z14 ez14 => ?_)
    have hz14 : z14.toInt = 24 * z4.toInt := i_mul ez14 (by decide) rfl (by omega)
    refine lv_aload_n hx hb dX12_suits_26 rfl (lv_at hl 1 rfl) ?_
    refine va_get (D := D) (ci := 12) (v := .ref (ad 28)) (C := RX12) (T := TX12) (N := 100) hx hb hg inX12 hown hK hP 0 rfl rfl 28 (by decide) (hg _ w1734) (fun _ h9 => h9) rfl dX12_suits_27 ?_
    refine lv_iload_n hx hb dX12_suits_30 rfl (lv_at hl 2 rfl) ?_
    refine va_iald (D := D) (i := p0) hx hb hK hP 21 20 rfl rfl (i_in (a := p0.toInt) rfl (by first | omega | ((try (have i_t8 := Imp.go t8 (by omega))); omega))) dX12_suits_31 ?_
    refine lv_iadd hx hb dX12_suits_32 ?_
    refine lv_topi (fun z15 ez15 => ?_)
    have hz15 : z15.toInt = z14.toInt + ((V 28 (Int32.toNatClampNeg p0))).toInt := i_add ez15 rfl rfl (by omega)
    refine va_zald (D := D) (i := z15) hx hb hK hP 14 13 rfl rfl (i_in (a := z15.toInt) rfl (by first | omega | ((try (have i_t8 := Imp.go t8 (by omega))); omega))) dX12_suits_33 ?_
    have r16 : 0 ≤ ((V 21 (Int32.toNatClampNeg z15))).toInt ∧ ((V 21 (Int32.toNatClampNeg z15))).toInt ≤ 1 := hMV 21 (Int32.toNatClampNeg z15)
    refine lv_if_eq (tgt := 65) hx hb dX12_suits_34 (by decide) (fun c17 => ?_) (fun c17 => ?_)
    · skip
      have f18 : ((V 21 (Int32.toNatClampNeg z15))).toInt = 0 := b_eq rfl (by decide) c17
      refine lv_iconst (v := 0) hx hb dX12_suits_65 (by decide) ?_
      exact W.zret (v := 0) hx hb hr rfl (fun t ht hW => ⟨⟨0, (), rfl, ⟨(by decide), (Imp.mk (fun hp => absurd hp (by decide)))⟩, by rw [ht]; exact hP, va_K.moved hW.alike hK, hD⟩, hS.F ht⟩) hS.2.2 dX12_suits_66
    · skip
      have f19 : ((V 21 (Int32.toNatClampNeg z15))).toInt ≠ 0 := b_neq rfl (by decide) c17
      refine lv_aload_n hx hb dX12_suits_37 rfl (lv_at hl 1 rfl) ?_
      refine va_get (D := D) (ci := 12) (v := .ref (ad 31)) (C := RX12) (T := TX12) (N := 100) hx hb hg inX12 hown hK hP 0 rfl rfl 31 (by decide) (hg _ w1737) (fun _ h9 => h9) rfl dX12_suits_38 ?_
      refine lv_iload_n hx hb dX12_suits_41 rfl (lv_at hl 2 rfl) ?_
      refine va_iald (D := D) (i := p0) hx hb hK hP 24 23 rfl rfl (i_in (a := p0.toInt) rfl (by first | omega | ((try (have i_t8 := Imp.go t8 (by omega))); omega))) dX12_suits_42 ?_
      refine lv_if_lt (tgt := 61) hx hb dX12_suits_43 (by decide) (fun c20 => ?_) (fun c20 => ?_)
      · skip
        have f21 : ((V 31 (Int32.toNatClampNeg p0))).toInt < 0 := b_lt rfl (by decide) c20
        refine lv_iconst (v := 1) hx hb dX12_suits_61 (by decide) ?_
        refine lv_goto (tgt := 66) hx hb dX12_suits_62 (by decide) ?_
        exact W.zret (v := 1) hx hb hr rfl (fun t ht hW => ⟨⟨1, (), rfl, ⟨(by decide), (Imp.mk (fun _ => Imp.go t9 (by omega)))⟩, by rw [ht]; exact hP, va_K.moved hW.alike hK, hD⟩, hS.F ht⟩) hS.2.2 dX12_suits_66
      · skip
        have f22 : 0 ≤ ((V 31 (Int32.toNatClampNeg p0))).toInt := b_nlt rfl (by decide) c20
        refine lv_aload_n hx hb dX12_suits_46 rfl (lv_at hl 1 rfl) ?_
        refine va_get (D := D) (ci := 12) (v := .ref (ad 23)) (C := RX12) (T := TX12) (N := 100) hx hb hg inX12 hown hK hP 0 rfl rfl 23 (by decide) (hg _ w1729) (fun _ h9 => h9) rfl dX12_suits_47 ?_
        refine lv_iload_n hx hb dX12_suits_50 rfl (lv_at hl 0 rfl) ?_
        refine va_iald (D := D) (i := z4) hx hb hK hP 16 15 rfl rfl (i_in (a := z4.toInt) rfl (by first | omega | ((try (have i_t8 := Imp.go t8 (by omega))); omega))) dX12_suits_51 ?_
        refine lv_aload_n hx hb dX12_suits_52 rfl (lv_at hl 1 rfl) ?_
        refine va_get (D := D) (ci := 12) (v := .ref (ad 31)) (C := RX12) (T := TX12) (N := 100) hx hb hg inX12 hown hK hP 0 rfl rfl 31 (by decide) (hg _ w1737) (fun _ h9 => h9) rfl dX12_suits_53 ?_
        refine lv_iload_n hx hb dX12_suits_56 rfl (lv_at hl 2 rfl) ?_
        refine va_iald (D := D) (i := p0) hx hb hK hP 24 23 rfl rfl (i_in (a := p0.toInt) rfl (by first | omega | ((try (have i_t8 := Imp.go t8 (by omega))); omega))) dX12_suits_57 ?_
        refine lv_icmp_ne (tgt := 65) hx hb dX12_suits_58 (by decide) (fun c23 => ?_) (fun c23 => ?_)
        · skip
          have f24 : ((V 23 (Int32.toNatClampNeg z4))).toInt ≠ ((V 31 (Int32.toNatClampNeg p0))).toInt := b_neq rfl rfl c23
          refine lv_iconst (v := 0) hx hb dX12_suits_65 (by decide) ?_
          exact W.zret (v := 0) hx hb hr rfl (fun t ht hW => ⟨⟨0, (), rfl, ⟨(by decide), (Imp.mk (fun hp => absurd hp (by decide)))⟩, by rw [ht]; exact hP, va_K.moved hW.alike hK, hD⟩, hS.F ht⟩) hS.2.2 dX12_suits_66
        · skip
          have f25 : ((V 23 (Int32.toNatClampNeg z4))).toInt = ((V 31 (Int32.toNatClampNeg p0))).toInt := b_eq rfl rfl c23
          refine lv_iconst (v := 1) hx hb dX12_suits_61 (by decide) ?_
          refine lv_goto (tgt := 66) hx hb dX12_suits_62 (by decide) ?_
          exact W.zret (v := 1) hx hb hr rfl (fun t ht hW => ⟨⟨1, (), rfl, ⟨(by decide), (Imp.mk (fun _ => Imp.go t9 (by omega)))⟩, by rw [ht]; exact hP, va_K.moved hW.alike hK, hD⟩, hS.F ht⟩) hS.2.2 dX12_suits_66
abbrev r_s_candidatesOf2 : Room := { frames := 2, cells := 0, slots := 0, locals := 45 }
abbrev q_s_candidatesOf2 (D : va_G) (ks : KS) (ad : Nat → Nat) (kk : Nat → ClassId) (V : Vf) (L : Lf) (p0 : Int32) (A : Nat → Prop) : Array Value → State → Outcome → State → Prop := va_Qi (fun (r : Int32) (u : Vf × Lf) => rgd bM u.1 ∧ agr [] [80] V u.1 ∧ u.2 = L ∧ (0 ≤ r.toInt ∧ r.toInt ≤ 24) ∧ (∀ i : Nat, (i : Int) < r.toInt → th V (Int32.toNatClampNeg (u.1 80 i))) ∧ (c0k V u.1)) (fun u t => gq D A (mw ad kk ks.1 u.1 u.2) (mty kk) t) A
set_option maxHeartbeats 4000000 in
set_option maxRecDepth 100000 in
theorem s_candidatesOf2 (l : Launch) (D : va_G) (ks : KS) (sz : Nat) (ad : Nat → Nat) (kk : Nat → ClassId) (V : Vf) (L : Lf) (p0 : Int32) (hMV : rgd bM V) (rg_p0 : 0 ≤ p0.toInt ∧ p0.toInt ≤ 383) (y1 : 0 ≤ (V 28 (Int32.toNatClampNeg p0)).toInt)  : Met l yX12_candidatesOf (Cond.code yX12_candidatesOf cX12_candidatesOf 5 (some .int) :: GW) r_s_candidatesOf2 (va_Pc [.ref (ad 0), .int p0] (gp D ks (mw ad kk ks.1 V L) (mty kk) sz)) (q_s_candidatesOf2 D ks ad kk V L p0 (va_A (mw ad kk ks.1 V L) sz)) 0 0 (va_A (mw ad kk ks.1 V L) sz) := by
  refine g_met (q_s_candidatesOf2 D ks ad kk V L p0) (by decide) (Nat.le_of_ble_eq_true rfl) ?_
  intro p e s m below meth c A ls H locs hx hb hr hml hown hg hlocks hin hnw hgk hP hK hD hS hA hl
  have hown : s.vm.findClass RX12 = some m.cls := hown
  have hl : lv_has ls 5 [(0, .ref (ad 0)), (1, .int p0)] := hl
  have hP : va_P D vwCl (mw ad kk ks.1 V L) H := hP
  have hD : va_D A (mw ad kk ks.1 V L) := hD
  have hK : va_K D vwCl (mty kk) s := hK
  have agV : agr [] [80] V V := agr.rf
  have r1 : (-1) ≤ ((V 28 (Int32.toNatClampNeg p0))).toInt ∧ ((V 28 (Int32.toNatClampNeg p0))).toInt ≤ 23 := hMV 28 (Int32.toNatClampNeg p0)
  refine lv_iconst (v := 0) hx hb dX12_candidatesOf_0 (by decide) ?_
  refine lv_istore_n (lv' := [(2, .int 0), (0, .ref (ad 0)), (1, .int p0)]) hx hb dX12_candidatesOf_1 rfl hl (by decide) rfl (fun ls hl => ?_)
  refine lv_iconst (v := 0) hx hb dX12_candidatesOf_2 (by decide) ?_
  refine lv_istore_n (lv' := [(3, .int 0), (2, .int 0), (0, .ref (ad 0)), (1, .int p0)]) hx hb dX12_candidatesOf_3 rfl hl (by decide) rfl (fun ls hl => ?_)
  have lp4 : ∀ (fulp4 : Nat) (y2 : Int32) (y3 : Int32) (H : Heap) (locs : List Loc) (ls : Array Slot), 0 ≤ y2.toInt ∧ y2.toInt ≤ 24 → 24 - y2.toInt < (fulp4 : Int) → va_P D vwCl (mw ad kk ks.1 V L) H → va_D A (mw ad kk ks.1 V L) → va_S A s.heap H locs → lv_has ls 5 [(3, .int y2), (2, .int y3), (0, .ref (ad 0)), (1, .int p0)] → W p l e r_s_candidatesOf2 s m ([.ref (ad 0), .int p0] : List Value).toArray below meth c H locs 0 0 (MQ below (q_s_candidatesOf2 D ks ad kk V L p0 A) ([.ref (ad 0), .int p0] : List Value).toArray s 0 0 A) (F0 m 4 ls []) := by
    intro fulp4
    induction fulp4 with
    | zero =>
      intro y2 y3 H locs ls klp4_0 hn  hP hD hS hl
      exfalso; omega
    | succ fulp4 ihlp4 =>
      intro y2 y3 H locs ls klp4_0 hn  hP hD hS hl
      refine lv_iload_n hx hb dX12_candidatesOf_4 rfl (lv_at hl 0 rfl) ?_
      refine lv_aload_n hx hb dX12_candidatesOf_5 rfl (lv_at hl 2 rfl) ?_
      refine va_get (D := D) (ci := 12) (v := .ref (ad 19)) (C := RX12) (T := TX12) (N := 100) hx hb hg inX12 hown hK hP 0 rfl rfl 19 (by decide) (hg _ w1725) (fun _ h9 => h9) rfl dX12_candidatesOf_6 ?_
      refine lv_aload_n hx hb dX12_candidatesOf_9 rfl (lv_at hl 2 rfl) ?_
      refine va_get (D := D) (ci := 12) (v := .int (V 0 11)) (C := RX12) (T := TX12) (N := 100) hx hb hg inX12 hown hK hP 0 rfl rfl 11 (by decide) (hg _ w1717) (fun _ h9 => h9) rfl dX12_candidatesOf_10 ?_
      have r5 : 0 ≤ ((V 0 11)).toInt ∧ ((V 0 11)).toInt ≤ 1 := hMV 0 11
      refine va_iald (D := D) (i := (V 0 11)) hx hb hK hP 12 11 rfl rfl (i_in (a := ((V 0 11)).toInt) rfl (by omega)) dX12_candidatesOf_13 ?_
      have r6 : 0 ≤ ((V 19 (Int32.toNatClampNeg (V 0 11)))).toInt ∧ ((V 19 (Int32.toNatClampNeg (V 0 11)))).toInt ≤ 24 := hMV 19 (Int32.toNatClampNeg (V 0 11))
      refine lv_icmp_ge (tgt := 69) hx hb dX12_candidatesOf_14 (by decide) (fun c7 => ?_) (fun c7 => ?_)
      · skip
        have f8 : ((V 19 (Int32.toNatClampNeg (V 0 11)))).toInt ≤ y2.toInt := b_le rfl rfl c7
        refine lv_iconst (v := 0) hx hb dX12_candidatesOf_69 (by decide) ?_
        refine lv_istore_n (lv' := [(3, .int 0), (2, .int y3), (0, .ref (ad 0)), (1, .int p0)]) hx hb dX12_candidatesOf_70 rfl hl (by decide) rfl (fun ls hl => ?_)
        refine lv_iconst (v := 0) hx hb dX12_candidatesOf_71 (by decide) ?_
        refine lv_istore (lv' := [(4, .int 0), (3, .int 0), (2, .int y3), (0, .ref (ad 0)), (1, .int p0)]) hx hb dX12_candidatesOf_72 hl (by decide) rfl (fun ls hl => ?_)
        have lp12 : ∀ (fulp12 : Nat) (y9 : Int32) (y10 : Int32) (V11 : Vf) (H : Heap) (locs : List Loc) (ls : Array Slot), 0 ≤ y9.toInt ∧ y9.toInt ≤ 24 → 0 ≤ y10.toInt ∧ y10.toInt ≤ 24 → y10.toInt ≤ y9.toInt → (∀ i : Nat, (i : Int) < y10.toInt → th V (Int32.toNatClampNeg (V11 80 i))) → Imp (y10.toInt = 0) (V11 80 0 = V 80 0) → 24 - y9.toInt < (fulp12 : Int) → agr [] [80] V V11 → rgd bM V11 → va_P D vwCl (mw ad kk ks.1 V11 L) H → va_D A (mw ad kk ks.1 V11 L) → va_S A s.heap H locs → lv_has ls 5 [(4, .int y9), (3, .int y10), (2, .int y3), (0, .ref (ad 0)), (1, .int p0)] → W p l e r_s_candidatesOf2 s m ([.ref (ad 0), .int p0] : List Value).toArray below meth c H locs 0 0 (MQ below (q_s_candidatesOf2 D ks ad kk V L p0 A) ([.ref (ad 0), .int p0] : List Value).toArray s 0 0 A) (F0 m 74 ls []) := by
          intro fulp12
          induction fulp12 with
          | zero =>
            intro y9 y10 V11 H locs ls klp12_0 klp12_1 xlp12_0 xlp12_1 xlp12_2 hn ajV11 hMV11 hP hD hS hl
            exfalso; omega
          | succ fulp12 ihlp12 =>
            intro y9 y10 V11 H locs ls klp12_0 klp12_1 xlp12_0 xlp12_1 xlp12_2 hn ajV11 hMV11 hP hD hS hl
            have agV11 : agr [] [80] V V11 := agV.tr ajV11 (by decide) (by decide)
            refine lv_iload hx hb dX12_candidatesOf_74 (lv_at hl 0 rfl) ?_
            refine lv_aload_n hx hb dX12_candidatesOf_76 rfl (lv_at hl 3 rfl) ?_
            refine va_get (D := D) (ci := 12) (v := .ref (ad 19)) (C := RX12) (T := TX12) (N := 100) hx hb hg inX12 hown hK hP 0 rfl rfl 19 (by decide) (hg _ w1725) (fun _ h9 => h9) rfl dX12_candidatesOf_77 ?_
            refine lv_aload_n hx hb dX12_candidatesOf_80 rfl (lv_at hl 3 rfl) ?_
            refine va_get (D := D) (ci := 12) (v := .int (V11 0 11)) (C := RX12) (T := TX12) (N := 100) hx hb hg inX12 hown hK hP 0 rfl rfl 11 (by decide) (hg _ w1717) (fun _ h9 => h9) rfl dX12_candidatesOf_81 ?_
            refine g_top (v := (V 0 11)) (ajV11 0 11 rfl) ?_
            refine va_iald (D := D) (i := (V 0 11)) hx hb hK hP 12 11 rfl rfl (i_in (a := ((V 0 11)).toInt) rfl (by omega)) dX12_candidatesOf_84 ?_
            refine g_top (v := (V 19 (Int32.toNatClampNeg (V 0 11)))) (ajV11 19 (Int32.toNatClampNeg (V 0 11)) rfl) ?_
            refine lv_icmp_ge (tgt := 143) hx hb dX12_candidatesOf_85 (by decide) (fun c13 => ?_) (fun c13 => ?_)
            · skip
              have f14 : ((V 19 (Int32.toNatClampNeg (V 0 11)))).toInt ≤ y9.toInt := b_le rfl rfl c13
              refine lv_iload_n hx hb dX12_candidatesOf_143 rfl (lv_at hl 1 rfl) ?_
              exact W.iret (v := y10) hx hb hr (fun t ht hW => ⟨⟨y10, (V11, L), rfl, ⟨hMV11, agV11, rfl, (show 0 ≤ y10.toInt ∧ y10.toInt ≤ 24 from by omega), xlp12_1, (by rcases Decidable.em (y10.toInt = 0) with h9 | h9; exact Or.inl (Imp.go xlp12_2 h9); exact Or.inr (xlp12_1 0 (by omega)))⟩, by rw [ht]; exact hP, va_K.moved hW.alike hK, hD⟩, hS.F ht⟩) hS.2.2 dX12_candidatesOf_144
            · skip
              have f15 : y9.toInt < ((V 19 (Int32.toNatClampNeg (V 0 11)))).toInt := b_nle rfl rfl c13
              refine lv_aload_n hx hb dX12_candidatesOf_88 rfl (lv_at hl 3 rfl) ?_
              refine lv_iload_n hx hb dX12_candidatesOf_89 rfl (lv_at hl 4 rfl) ?_
              refine lv_iload hx hb dX12_candidatesOf_90 (lv_at hl 0 rfl) ?_
              have pq16 : (V11 28 (Int32.toNatClampNeg p0)).toInt = ((V 28 (Int32.toNatClampNeg p0))).toInt := congrArg Int32.toInt (ajV11 28 (Int32.toNatClampNeg p0) rfl)
              refine gA_int (gA_runV (As := [.int p0, .int y9]) (rest := []) (ci := 12) (q0 := 0) hx hb hml hown hg hP hD hK hS hA hnw hgk (s_suits2 l D ks H.size ad kk V11 L p0 y9 hMV11 (by omega) (by omega) (show 0 ≤ (V11 28 (Int32.toNatClampNeg p0)).toInt from by omega)) w2176 w2178 w120 w172 w2179 rfl rfl hdV_yX12_suits ⟨Nat.le_of_ble_eq_true rfl, Nat.le_of_ble_eq_true rfl⟩ rfl hl.1 rfl (Nat.le_of_ble_eq_true rfl) dX12_candidatesOf_92 ⟨Nat.le_of_ble_eq_true rfl, Nat.le_of_ble_eq_true rfl⟩) hP hD hK hS hA (fun z17 u18 H locs w19 hP hD hK hS => ?_)
              obtain ⟨rgz17, t20⟩ := w19
              have rgz17 : 0 ≤ z17.toInt ∧ z17.toInt ≤ 1 := rgz17
              have t20 : Imp (z17.toInt = 1) (th V11 (Int32.toNatClampNeg y9)) := t20
              refine lv_if_eq (tgt := 137) hx hb dX12_candidatesOf_95 (by decide) (fun c21 => ?_) (fun c21 => ?_)
              · skip
                have f22 : z17.toInt = 0 := b_eq rfl (by decide) c21
                obtain ⟨z23, ez23⟩ : ∃ y : Int32, y = y9 + 1 := ⟨_, rfl⟩
                have hz23 : z23.toInt = y9.toInt + 1 := i_add ez23 rfl (by decide) (by omega)
                refine lv_iinc (v := z23) (lv' := [(4, .int z23), (3, .int y10), (2, .int y3), (0, .ref (ad 0)), (1, .int p0)]) hx hb dX12_candidatesOf_137 hl (k := 0) rfl (by rw [ez23]; rfl) (by decide) rfl (fun ls hl => ?_)
                refine lv_goto (tgt := 74) hx hb dX12_candidatesOf_140 (by decide) ?_
                exact ihlp12 z23 y10 V11 H locs ls (by omega) (by omega) (show y10.toInt ≤ z23.toInt from by omega) xlp12_1 xlp12_2 (by omega) (agr.tr agr.rf ajV11 (by decide) (by decide)) hMV11 hP hD hS (lv_sub hl [0, 1, 2, 3, 4] rfl)
              · skip
                have f24 : z17.toInt ≠ 0 := b_neq rfl (by decide) c21
                refine lv_aload_n hx hb dX12_candidatesOf_98 rfl (lv_at hl 3 rfl) ?_
                refine va_get (D := D) (ci := 12) (v := .ref (ad 30)) (C := RX12) (T := TX12) (N := 100) hx hb hg inX12 hown hK hP 0 rfl rfl 30 (by decide) (hg _ w1736) (fun _ h9 => h9) rfl dX12_candidatesOf_99 ?_
                refine lv_iload_n hx hb dX12_candidatesOf_102 rfl (lv_at hl 4 rfl) ?_
                refine va_zald (D := D) (i := p0) hx hb hK hP 23 22 rfl rfl (i_in (a := p0.toInt) rfl (by omega)) dX12_candidatesOf_103 ?_
                refine g_top (v := (V 30 (Int32.toNatClampNeg p0))) (ajV11 30 (Int32.toNatClampNeg p0) rfl) ?_
                have r25 : 0 ≤ ((V 30 (Int32.toNatClampNeg p0))).toInt ∧ ((V 30 (Int32.toNatClampNeg p0))).toInt ≤ 1 := hMV 30 (Int32.toNatClampNeg p0)
                refine lv_if_ne (tgt := 126) hx hb dX12_candidatesOf_104 (by decide) (fun c26 => ?_) (fun c26 => ?_)
                · skip
                  have f27 : ((V 30 (Int32.toNatClampNeg p0))).toInt ≠ 0 := b_neq rfl (by decide) c26
                  refine lv_aload_n hx hb dX12_candidatesOf_126 rfl (lv_at hl 3 rfl) ?_
                  refine va_get (D := D) (ci := 12) (v := .ref (ad 80)) (C := RX12) (T := TX12) (N := 100) hx hb hg inX12 hown hK hP 0 rfl rfl 80 (by decide) (hg _ w1786) (fun _ h9 => h9) rfl dX12_candidatesOf_127 ?_
                  refine lv_iload_n hx hb dX12_candidatesOf_130 rfl (lv_at hl 1 rfl) ?_
                  refine lv_iload hx hb dX12_candidatesOf_131 (lv_at hl 0 rfl) ?_
                  refine va_iast (D := D) (i := y10) (x := y9) hx hb hK hP hD hS 57 56 rfl rfl (i_in (a := y10.toInt) rfl (by omega)) dX12_candidatesOf_133 (fun H locs hP hD hS => ?_)
                  obtain ⟨V28, hV28⟩ : ∃ z, z = up2 V11 80 (Int32.toNatClampNeg y10) y9 := ⟨_, rfl⟩
                  have hP : va_P D vwCl (mw ad kk ks.1 V28 L) H := by rw [hV28]; exact hP
                  have hD : va_D A (mw ad kk ks.1 V28 L) := by rw [hV28]; exact hD
                  have hMV28 : rgd bM V28 := hMV11.put hV28 (show 0 ≤ y9.toInt ∧ y9.toInt ≤ 23 from by omega)
                  have agV28 : agr [] [80] V V28 := agV11.up hV28 rfl
                  obtain ⟨z29, ez29⟩ : ∃ y : Int32, y = y10 + 1 := ⟨_, rfl⟩
                  have hz29 : z29.toInt = y10.toInt + 1 := i_add ez29 rfl (by decide) (by omega)
                  refine lv_iinc (v := z29) (lv' := [(3, .int z29), (4, .int y9), (2, .int y3), (0, .ref (ad 0)), (1, .int p0)]) hx hb dX12_candidatesOf_134 hl (k := 1) rfl (by rw [ez29]; rfl) (by decide) rfl (fun ls hl => ?_)
                  obtain ⟨z30, ez30⟩ : ∃ y : Int32, y = y9 + 1 := ⟨_, rfl⟩
                  have hz30 : z30.toInt = y9.toInt + 1 := i_add ez30 rfl (by decide) (by omega)
                  refine lv_iinc (v := z30) (lv' := [(4, .int z30), (3, .int z29), (2, .int y3), (0, .ref (ad 0)), (1, .int p0)]) hx hb dX12_candidatesOf_137 hl (k := 1) rfl (by rw [ez30]; rfl) (by decide) rfl (fun ls hl => ?_)
                  refine lv_goto (tgt := 74) hx hb dX12_candidatesOf_140 (by decide) ?_
                  have kc := i_clamp (x := y10) rfl (by omega)
                  exact ihlp12 z30 z29 V28 H locs ls (by omega) (by omega) (show z29.toInt ≤ z30.toInt from by omega) (fun i hi => by rcases Decidable.em (i = Int32.toNatClampNeg y10) with hk | hk; (rw [hk, up2_s hV28]; exact th.ag (Imp.go t20 (by omega)) (agr.sy agV11) ⟨rfl, fun _ => rfl, fun _ => rfl, fun _ => rfl, fun _ => rfl, fun _ => rfl, fun _ => rfl⟩); (rw [up2_k hV28 hk]; exact xlp12_1 i (by omega))) (Imp.mk (fun hp => by exfalso; omega)) (by omega) (agr.up (agr.tr agr.rf ajV11 (by decide) (by decide)) hV28 rfl) hMV28 hP hD hS (lv_sub hl [0, 1, 2, 3, 4] rfl)
                · skip
                  have f31 : ((V 30 (Int32.toNatClampNeg p0))).toInt = 0 := b_eq rfl (by decide) c26
                  refine lv_aload_n hx hb dX12_candidatesOf_107 rfl (lv_at hl 3 rfl) ?_
                  refine va_get (D := D) (ci := 12) (v := .ref (ad 24)) (C := RX12) (T := TX12) (N := 100) hx hb hg inX12 hown hK hP 0 rfl rfl 24 (by decide) (hg _ w1730) (fun _ h9 => h9) rfl dX12_candidatesOf_108 ?_
                  refine lv_bipush (v := 24) hx hb dX12_candidatesOf_111 (by decide) ?_
                  refine lv_aload_n hx hb dX12_candidatesOf_113 rfl (lv_at hl 3 rfl) ?_
                  refine va_get (D := D) (ci := 12) (v := .int (V11 0 11)) (C := RX12) (T := TX12) (N := 100) hx hb hg inX12 hown hK hP 0 rfl rfl 11 (by decide) (hg _ w1717) (fun _ h9 => h9) rfl dX12_candidatesOf_114 ?_
                  refine g_top (v := (V 0 11)) (ajV11 0 11 rfl) ?_
                  refine lv_imul hx hb dX12_candidatesOf_117 ?_
                  refine lv_topi (fun z32 ez32 => ?_)
                  have hz32 : z32.toInt = 24 * ((V 0 11)).toInt := i_mul ez32 (by decide) rfl (by omega)
                  refine lv_iload hx hb dX12_candidatesOf_118 (lv_at hl 0 rfl) ?_
                  refine lv_iadd hx hb dX12_candidatesOf_120 ?_
                  refine lv_topi (fun z33 ez33 => ?_)
                  have hz33 : z33.toInt = z32.toInt + y9.toInt := i_add ez33 rfl rfl (by omega)
                  refine va_iald (D := D) (i := z33) hx hb hK hP 17 16 rfl rfl (i_in (a := z33.toInt) rfl (by omega)) dX12_candidatesOf_121 ?_
                  refine g_top (v := (V 24 (Int32.toNatClampNeg z33))) (ajV11 24 (Int32.toNatClampNeg z33) rfl) ?_
                  have r34 : 0 ≤ ((V 24 (Int32.toNatClampNeg z33))).toInt ∧ ((V 24 (Int32.toNatClampNeg z33))).toInt ≤ 9 := hMV 24 (Int32.toNatClampNeg z33)
                  refine lv_iload_n hx hb dX12_candidatesOf_122 rfl (lv_at hl 2 rfl) ?_
                  refine lv_icmp_ne (tgt := 137) hx hb dX12_candidatesOf_123 (by decide) (fun c35 => ?_) (fun c35 => ?_)
                  · skip
                    have f36 : ((V 24 (Int32.toNatClampNeg z33))).toInt ≠ y3.toInt := b_neq rfl rfl c35
                    obtain ⟨z37, ez37⟩ : ∃ y : Int32, y = y9 + 1 := ⟨_, rfl⟩
                    have hz37 : z37.toInt = y9.toInt + 1 := i_add ez37 rfl (by decide) (by omega)
                    refine lv_iinc (v := z37) (lv' := [(4, .int z37), (3, .int y10), (2, .int y3), (0, .ref (ad 0)), (1, .int p0)]) hx hb dX12_candidatesOf_137 hl (k := 0) rfl (by rw [ez37]; rfl) (by decide) rfl (fun ls hl => ?_)
                    refine lv_goto (tgt := 74) hx hb dX12_candidatesOf_140 (by decide) ?_
                    exact ihlp12 z37 y10 V11 H locs ls (by omega) (by omega) (show y10.toInt ≤ z37.toInt from by omega) xlp12_1 xlp12_2 (by omega) (agr.tr agr.rf ajV11 (by decide) (by decide)) hMV11 hP hD hS (lv_sub hl [0, 1, 2, 3, 4] rfl)
                  · skip
                    have f38 : ((V 24 (Int32.toNatClampNeg z33))).toInt = y3.toInt := b_eq rfl rfl c35
                    refine lv_aload_n hx hb dX12_candidatesOf_126 rfl (lv_at hl 3 rfl) ?_
                    refine va_get (D := D) (ci := 12) (v := .ref (ad 80)) (C := RX12) (T := TX12) (N := 100) hx hb hg inX12 hown hK hP 0 rfl rfl 80 (by decide) (hg _ w1786) (fun _ h9 => h9) rfl dX12_candidatesOf_127 ?_
                    refine lv_iload_n hx hb dX12_candidatesOf_130 rfl (lv_at hl 1 rfl) ?_
                    refine lv_iload hx hb dX12_candidatesOf_131 (lv_at hl 0 rfl) ?_
                    refine va_iast (D := D) (i := y10) (x := y9) hx hb hK hP hD hS 57 56 rfl rfl (i_in (a := y10.toInt) rfl (by omega)) dX12_candidatesOf_133 (fun H locs hP hD hS => ?_)
                    obtain ⟨V39, hV39⟩ : ∃ z, z = up2 V11 80 (Int32.toNatClampNeg y10) y9 := ⟨_, rfl⟩
                    have hP : va_P D vwCl (mw ad kk ks.1 V39 L) H := by rw [hV39]; exact hP
                    have hD : va_D A (mw ad kk ks.1 V39 L) := by rw [hV39]; exact hD
                    have hMV39 : rgd bM V39 := hMV11.put hV39 (show 0 ≤ y9.toInt ∧ y9.toInt ≤ 23 from by omega)
                    have agV39 : agr [] [80] V V39 := agV11.up hV39 rfl
                    obtain ⟨z40, ez40⟩ : ∃ y : Int32, y = y10 + 1 := ⟨_, rfl⟩
                    have hz40 : z40.toInt = y10.toInt + 1 := i_add ez40 rfl (by decide) (by omega)
                    refine lv_iinc (v := z40) (lv' := [(3, .int z40), (4, .int y9), (2, .int y3), (0, .ref (ad 0)), (1, .int p0)]) hx hb dX12_candidatesOf_134 hl (k := 1) rfl (by rw [ez40]; rfl) (by decide) rfl (fun ls hl => ?_)
                    obtain ⟨z41, ez41⟩ : ∃ y : Int32, y = y9 + 1 := ⟨_, rfl⟩
                    have hz41 : z41.toInt = y9.toInt + 1 := i_add ez41 rfl (by decide) (by omega)
                    refine lv_iinc (v := z41) (lv' := [(4, .int z41), (3, .int z40), (2, .int y3), (0, .ref (ad 0)), (1, .int p0)]) hx hb dX12_candidatesOf_137 hl (k := 1) rfl (by rw [ez41]; rfl) (by decide) rfl (fun ls hl => ?_)
                    refine lv_goto (tgt := 74) hx hb dX12_candidatesOf_140 (by decide) ?_
                    have kc := i_clamp (x := y10) rfl (by omega)
                    exact ihlp12 z41 z40 V39 H locs ls (by omega) (by omega) (show z40.toInt ≤ z41.toInt from by omega) (fun i hi => by rcases Decidable.em (i = Int32.toNatClampNeg y10) with hk | hk; (rw [hk, up2_s hV39]; exact th.ag (Imp.go t20 (by omega)) (agr.sy agV11) ⟨rfl, fun _ => rfl, fun _ => rfl, fun _ => rfl, fun _ => rfl, fun _ => rfl, fun _ => rfl⟩); (rw [up2_k hV39 hk]; exact xlp12_1 i (by omega))) (Imp.mk (fun hp => by exfalso; omega)) (by omega) (agr.up (agr.tr agr.rf ajV11 (by decide) (by decide)) hV39 rfl) hMV39 hP hD hS (lv_sub hl [0, 1, 2, 3, 4] rfl)
        have r42 : Int32.toInt 0 = 0 := by decide
        exact lp12 ((24 - (Int32.toInt 0) + 1 : Int).toNat) 0 0 V H locs ls (by decide) (by decide) (show (Int32.toInt 0) ≤ (Int32.toInt 0) from by omega) (fun i hi => absurd hi (by omega)) (Imp.mk (fun _ => rfl)) (by omega) agr.rf hMV hP hD hS (lv_sub hl [0, 1, 2, 3, 4] rfl)
      · skip
        have f43 : y2.toInt < ((V 19 (Int32.toNatClampNeg (V 0 11)))).toInt := b_nle rfl rfl c7
        refine lv_aload_n hx hb dX12_candidatesOf_17 rfl (lv_at hl 2 rfl) ?_
        refine lv_iload_n hx hb dX12_candidatesOf_18 rfl (lv_at hl 3 rfl) ?_
        refine lv_iload_n hx hb dX12_candidatesOf_19 rfl (lv_at hl 0 rfl) ?_
        refine gA_int (gA_runV (As := [.int p0, .int y2]) (rest := []) (ci := 12) (q0 := 0) hx hb hml hown hg hP hD hK hS hA hnw hgk (s_suits2 l D ks H.size ad kk V L p0 y2 hMV (by omega) (by omega) (show 0 ≤ (V 28 (Int32.toNatClampNeg p0)).toInt from by omega)) w2176 w2178 w120 w172 w2179 rfl rfl hdV_yX12_suits ⟨Nat.le_of_ble_eq_true rfl, Nat.le_of_ble_eq_true rfl⟩ rfl hl.1 rfl (Nat.le_of_ble_eq_true rfl) dX12_candidatesOf_20 ⟨Nat.le_of_ble_eq_true rfl, Nat.le_of_ble_eq_true rfl⟩) hP hD hK hS hA (fun z44 u45 H locs w46 hP hD hK hS => ?_)
        obtain ⟨rgz44, t47⟩ := w46
        have rgz44 : 0 ≤ z44.toInt ∧ z44.toInt ≤ 1 := rgz44
        have t47 : Imp (z44.toInt = 1) (th V (Int32.toNatClampNeg y2)) := t47
        refine lv_if_eq (tgt := 61) hx hb dX12_candidatesOf_23 (by decide) (fun c48 => ?_) (fun c48 => ?_)
        · skip
          have f49 : z44.toInt = 0 := b_eq rfl (by decide) c48
          refine lv_iload_n hx hb dX12_candidatesOf_61 rfl (lv_at hl 1 rfl) ?_
          refine lv_istore_n (lv' := [(2, .int y3), (3, .int y2), (0, .ref (ad 0)), (1, .int p0)]) hx hb dX12_candidatesOf_62 rfl hl (by decide) rfl (fun ls hl => ?_)
          obtain ⟨z50, ez50⟩ : ∃ y : Int32, y = y2 + 1 := ⟨_, rfl⟩
          have hz50 : z50.toInt = y2.toInt + 1 := i_add ez50 rfl (by decide) (by omega)
          refine lv_iinc (v := z50) (lv' := [(3, .int z50), (2, .int y3), (0, .ref (ad 0)), (1, .int p0)]) hx hb dX12_candidatesOf_63 hl (k := 1) rfl (by rw [ez50]; rfl) (by decide) rfl (fun ls hl => ?_)
          refine lv_goto (tgt := 4) hx hb dX12_candidatesOf_66 (by decide) ?_
          exact ihlp4 z50 y3 H locs ls (by omega) (by omega) hP hD hS (lv_sub hl [0, 1, 2, 3] rfl)
        · skip
          have f51 : z44.toInt ≠ 0 := b_neq rfl (by decide) c48
          refine lv_aload_n hx hb dX12_candidatesOf_26 rfl (lv_at hl 2 rfl) ?_
          refine va_get (D := D) (ci := 12) (v := .ref (ad 24)) (C := RX12) (T := TX12) (N := 100) hx hb hg inX12 hown hK hP 0 rfl rfl 24 (by decide) (hg _ w1730) (fun _ h9 => h9) rfl dX12_candidatesOf_27 ?_
          refine lv_bipush (v := 24) hx hb dX12_candidatesOf_30 (by decide) ?_
          refine lv_aload_n hx hb dX12_candidatesOf_32 rfl (lv_at hl 2 rfl) ?_
          refine va_get (D := D) (ci := 12) (v := .int (V 0 11)) (C := RX12) (T := TX12) (N := 100) hx hb hg inX12 hown hK hP 0 rfl rfl 11 (by decide) (hg _ w1717) (fun _ h9 => h9) rfl dX12_candidatesOf_33 ?_
          refine lv_imul hx hb dX12_candidatesOf_36 ?_
          refine lv_topi (fun z52 ez52 => ?_)
          have hz52 : z52.toInt = 24 * ((V 0 11)).toInt := i_mul ez52 (by decide) rfl (by omega)
          refine lv_iload_n hx hb dX12_candidatesOf_37 rfl (lv_at hl 0 rfl) ?_
          refine lv_iadd hx hb dX12_candidatesOf_38 ?_
          refine lv_topi (fun z53 ez53 => ?_)
          have hz53 : z53.toInt = z52.toInt + y2.toInt := i_add ez53 rfl rfl (by omega)
          refine va_iald (D := D) (i := z53) hx hb hK hP 17 16 rfl rfl (i_in (a := z53.toInt) rfl (by omega)) dX12_candidatesOf_39 ?_
          have r54 : 0 ≤ ((V 24 (Int32.toNatClampNeg z53))).toInt ∧ ((V 24 (Int32.toNatClampNeg z53))).toInt ≤ 9 := hMV 24 (Int32.toNatClampNeg z53)
          refine lv_iload_n hx hb dX12_candidatesOf_40 rfl (lv_at hl 1 rfl) ?_
          refine lv_icmp_le (tgt := 61) hx hb dX12_candidatesOf_41 (by decide) (fun c55 => ?_) (fun c55 => ?_)
          · skip
            have f56 : ((V 24 (Int32.toNatClampNeg z53))).toInt ≤ y3.toInt := b_le rfl rfl c55
            refine lv_iload_n hx hb dX12_candidatesOf_61 rfl (lv_at hl 1 rfl) ?_
            refine lv_istore_n (lv' := [(2, .int y3), (3, .int y2), (0, .ref (ad 0)), (1, .int p0)]) hx hb dX12_candidatesOf_62 rfl hl (by decide) rfl (fun ls hl => ?_)
            obtain ⟨z57, ez57⟩ : ∃ y : Int32, y = y2 + 1 := ⟨_, rfl⟩
            have hz57 : z57.toInt = y2.toInt + 1 := i_add ez57 rfl (by decide) (by omega)
            refine lv_iinc (v := z57) (lv' := [(3, .int z57), (2, .int y3), (0, .ref (ad 0)), (1, .int p0)]) hx hb dX12_candidatesOf_63 hl (k := 1) rfl (by rw [ez57]; rfl) (by decide) rfl (fun ls hl => ?_)
            refine lv_goto (tgt := 4) hx hb dX12_candidatesOf_66 (by decide) ?_
            exact ihlp4 z57 y3 H locs ls (by omega) (by omega) hP hD hS (lv_sub hl [0, 1, 2, 3] rfl)
          · skip
            have f58 : y3.toInt < ((V 24 (Int32.toNatClampNeg z53))).toInt := b_nle rfl rfl c55
            refine lv_aload_n hx hb dX12_candidatesOf_44 rfl (lv_at hl 2 rfl) ?_
            refine va_get (D := D) (ci := 12) (v := .ref (ad 24)) (C := RX12) (T := TX12) (N := 100) hx hb hg inX12 hown hK hP 0 rfl rfl 24 (by decide) (hg _ w1730) (fun _ h9 => h9) rfl dX12_candidatesOf_45 ?_
            refine lv_bipush (v := 24) hx hb dX12_candidatesOf_48 (by decide) ?_
            refine lv_aload_n hx hb dX12_candidatesOf_50 rfl (lv_at hl 2 rfl) ?_
            refine va_get (D := D) (ci := 12) (v := .int (V 0 11)) (C := RX12) (T := TX12) (N := 100) hx hb hg inX12 hown hK hP 0 rfl rfl 11 (by decide) (hg _ w1717) (fun _ h9 => h9) rfl dX12_candidatesOf_51 ?_
            refine lv_imul hx hb dX12_candidatesOf_54 ?_
            refine lv_topi (fun z59 ez59 => ?_)
            have hz59 : z59.toInt = 24 * ((V 0 11)).toInt := i_mul ez59 (by decide) rfl (by omega)
            refine lv_iload_n hx hb dX12_candidatesOf_55 rfl (lv_at hl 0 rfl) ?_
            refine lv_iadd hx hb dX12_candidatesOf_56 ?_
            refine lv_topi (fun z60 ez60 => ?_)
            have hz60 : z60.toInt = z59.toInt + y2.toInt := i_add ez60 rfl rfl (by omega)
            refine va_iald (D := D) (i := z60) hx hb hK hP 17 16 rfl rfl (i_in (a := z60.toInt) rfl (by omega)) dX12_candidatesOf_57 ?_
            have r61 : 0 ≤ ((V 24 (Int32.toNatClampNeg z60))).toInt ∧ ((V 24 (Int32.toNatClampNeg z60))).toInt ≤ 9 := hMV 24 (Int32.toNatClampNeg z60)
            refine lv_goto (tgt := 62) hx hb dX12_candidatesOf_58 (by decide) ?_
            refine lv_istore_n (lv' := [(2, .int (V 24 (Int32.toNatClampNeg z60))), (3, .int y2), (0, .ref (ad 0)), (1, .int p0)]) hx hb dX12_candidatesOf_62 rfl hl (by decide) rfl (fun ls hl => ?_)
            obtain ⟨z62, ez62⟩ : ∃ y : Int32, y = y2 + 1 := ⟨_, rfl⟩
            have hz62 : z62.toInt = y2.toInt + 1 := i_add ez62 rfl (by decide) (by omega)
            refine lv_iinc (v := z62) (lv' := [(3, .int z62), (2, .int (V 24 (Int32.toNatClampNeg z60))), (0, .ref (ad 0)), (1, .int p0)]) hx hb dX12_candidatesOf_63 hl (k := 1) rfl (by rw [ez62]; rfl) (by decide) rfl (fun ls hl => ?_)
            refine lv_goto (tgt := 4) hx hb dX12_candidatesOf_66 (by decide) ?_
            exact ihlp4 z62 (V 24 (Int32.toNatClampNeg z60)) H locs ls (by omega) (by omega) hP hD hS (lv_sub hl [0, 1, 2, 3] rfl)
  have r63 : Int32.toInt 0 = 0 := by decide
  exact lp4 ((24 - (Int32.toInt 0) + 1 : Int).toNat) 0 0 H locs ls (by decide) (by omega) hP hD hS (lv_sub hl [0, 1, 2, 3] rfl)
abbrev r_s_isCandidate2 : Room := { frames := 3, cells := 0, slots := 0, locals := 69 }
abbrev q_s_isCandidate2 (D : va_G) (ks : KS) (ad : Nat → Nat) (kk : Nat → ClassId) (V : Vf) (L : Lf) (p0 : Int32) (p1 : Int32) (A : Nat → Prop) : Array Value → State → Outcome → State → Prop := va_Qi (fun (r : Int32) (u : Vf × Lf) => rgd bM u.1 ∧ agr [] [80] V u.1 ∧ u.2 = L ∧ (0 ≤ r.toInt ∧ r.toInt ≤ 1) ∧ (Imp (r.toInt = 1) (th V (Int32.toNatClampNeg p1))) ∧ (c0k V u.1)) (fun u t => gq D A (mw ad kk ks.1 u.1 u.2) (mty kk) t) A
set_option maxHeartbeats 4000000 in
set_option maxRecDepth 100000 in
theorem s_isCandidate2 (l : Launch) (D : va_G) (ks : KS) (sz : Nat) (ad : Nat → Nat) (kk : Nat → ClassId) (V : Vf) (L : Lf) (p0 : Int32) (p1 : Int32) (hMV : rgd bM V) (rg_p0 : 0 ≤ p0.toInt ∧ p0.toInt ≤ 383) (y1 : 0 ≤ (V 28 (Int32.toNatClampNeg p0)).toInt)  : Met l yX12_isCandidate (Cond.code yX12_isCandidate cX12_isCandidate 6 (some .boolean) :: GW) r_s_isCandidate2 (va_Pc [.ref (ad 0), .int p0, .int p1] (gp D ks (mw ad kk ks.1 V L) (mty kk) sz)) (q_s_isCandidate2 D ks ad kk V L p0 p1 (va_A (mw ad kk ks.1 V L) sz)) 0 0 (va_A (mw ad kk ks.1 V L) sz) := by
  refine g_met (q_s_isCandidate2 D ks ad kk V L p0 p1) (by decide) (Nat.le_of_ble_eq_true rfl) ?_
  intro p e s m below meth c A ls H locs hx hb hr hml hown hg hlocks hin hnw hgk hP hK hD hS hA hl
  have hown : s.vm.findClass RX12 = some m.cls := hown
  have hl : lv_has ls 6 [(0, .ref (ad 0)), (1, .int p0), (2, .int p1)] := hl
  have hP : va_P D vwCl (mw ad kk ks.1 V L) H := hP
  have hD : va_D A (mw ad kk ks.1 V L) := hD
  have hK : va_K D vwCl (mty kk) s := hK
  have agV : agr [] [80] V V := agr.rf
  have r1 : (-1) ≤ ((V 28 (Int32.toNatClampNeg p0))).toInt ∧ ((V 28 (Int32.toNatClampNeg p0))).toInt ≤ 23 := hMV 28 (Int32.toNatClampNeg p0)
  refine lv_aload_n hx hb dX12_isCandidate_0 rfl (lv_at hl 0 rfl) ?_
  refine lv_iload_n hx hb dX12_isCandidate_1 rfl (lv_at hl 1 rfl) ?_
  refine gA_int (gA_runV (As := [.int p0]) (rest := []) (ci := 12) (q0 := 0) hx hb hml hown hg hP hD hK hS hA hnw hgk (s_candidatesOf2 l D ks H.size ad kk V L p0 hMV (by omega) (show 0 ≤ (V 28 (Int32.toNatClampNeg p0)).toInt from by omega)) w2172 w2174 w119 w172 w2175 rfl rfl hdV_yX12_candidatesOf ⟨Nat.le_of_ble_eq_true rfl, Nat.le_of_ble_eq_true rfl⟩ rfl hl.1 rfl (Nat.le_of_ble_eq_true rfl) dX12_isCandidate_2 ⟨Nat.le_of_ble_eq_true rfl, Nat.le_of_ble_eq_true rfl⟩) hP hD hK hS hA (fun z2 u3 H locs w4 hP hD hK hS => ?_)
  obtain ⟨V7, L8⟩ := u3
  obtain ⟨hMV7, ajV7, axL8, rgz2, t5, t6⟩ := w4
  have axL8 : L = L8 := Eq.symm axL8
  subst axL8
  have hP : va_P D vwCl (mw ad kk ks.1 V7 L) H := hP
  have hD : va_D A (mw ad kk ks.1 V7 L) := hD
  have hMV7 : rgd bM V7 := hMV7
  have ajV7 : agr [] [80] V V7 := ajV7
  have agV7 : agr [] [80] V V7 := agV.tr ajV7 (by decide) (by decide)
  have rgz2 : 0 ≤ z2.toInt ∧ z2.toInt ≤ 24 := rgz2
  have t5 : ∀ i : Nat, (i : Int) < z2.toInt → th V (Int32.toNatClampNeg (V7 80 i)) := t5
  have t6 : c0k V V7 := t6
  refine lv_istore_n (lv' := [(3, .int z2), (0, .ref (ad 0)), (1, .int p0), (2, .int p1)]) hx hb dX12_isCandidate_5 rfl hl (by decide) rfl (fun ls hl => ?_)
  refine lv_iconst (v := 0) hx hb dX12_isCandidate_6 (by decide) ?_
  refine lv_istore (lv' := [(4, .int 0), (3, .int z2), (0, .ref (ad 0)), (1, .int p0), (2, .int p1)]) hx hb dX12_isCandidate_7 hl (by decide) rfl (fun ls hl => ?_)
  refine lv_iconst (v := 0) hx hb dX12_isCandidate_9 (by decide) ?_
  refine lv_istore (lv' := [(5, .int 0), (4, .int 0), (3, .int z2), (0, .ref (ad 0)), (1, .int p0), (2, .int p1)]) hx hb dX12_isCandidate_10 hl (by decide) rfl (fun ls hl => ?_)
  have lp11 : ∀ (fulp11 : Nat) (y9 : Int32) (y10 : Int32) (H : Heap) (locs : List Loc) (ls : Array Slot), 0 ≤ y9.toInt ∧ y9.toInt ≤ 24 → 0 ≤ y10.toInt ∧ y10.toInt ≤ 1 → y9.toInt ≤ z2.toInt → Imp (y10.toInt = 1) (th V (Int32.toNatClampNeg p1)) → z2.toInt - y9.toInt < (fulp11 : Int) → va_P D vwCl (mw ad kk ks.1 V7 L) H → va_D A (mw ad kk ks.1 V7 L) → va_S A s.heap H locs → lv_has ls 6 [(5, .int y9), (4, .int y10), (3, .int z2), (0, .ref (ad 0)), (1, .int p0), (2, .int p1)] → W p l e r_s_isCandidate2 s m ([.ref (ad 0), .int p0, .int p1] : List Value).toArray below meth c H locs 0 0 (MQ below (q_s_isCandidate2 D ks ad kk V L p0 p1 A) ([.ref (ad 0), .int p0, .int p1] : List Value).toArray s 0 0 A) (F0 m 12 ls []) := by
    intro fulp11
    induction fulp11 with
    | zero =>
      intro y9 y10 H locs ls klp11_0 klp11_1 xlp11_0 xlp11_1 hn  hP hD hS hl
      exfalso; omega
    | succ fulp11 ihlp11 =>
      intro y9 y10 H locs ls klp11_0 klp11_1 xlp11_0 xlp11_1 hn  hP hD hS hl
      refine lv_iload hx hb dX12_isCandidate_12 (lv_at hl 0 rfl) ?_
      refine lv_iload_n hx hb dX12_isCandidate_14 rfl (lv_at hl 2 rfl) ?_
      refine lv_icmp_ge (tgt := 47) hx hb dX12_isCandidate_15 (by decide) (fun c12 => ?_) (fun c12 => ?_)
      · skip
        have f13 : z2.toInt ≤ y9.toInt := b_le rfl rfl c12
        refine lv_iload hx hb dX12_isCandidate_47 (lv_at hl 1 rfl) ?_
        exact W.zret (v := y10) hx hb hr (nb_ok (by omega)) (fun t ht hW => ⟨⟨y10, (V7, L), rfl, ⟨hMV7, agV7, rfl, (show 0 ≤ y10.toInt ∧ y10.toInt ≤ 1 from by omega), xlp11_1, t6⟩, by rw [ht]; exact hP, va_K.moved hW.alike hK, hD⟩, hS.F ht⟩) hS.2.2 dX12_isCandidate_49
      · skip
        have f14 : y9.toInt < z2.toInt := b_nle rfl rfl c12
        refine lv_iload hx hb dX12_isCandidate_18 (lv_at hl 1 rfl) ?_
        refine lv_if_ne (tgt := 34) hx hb dX12_isCandidate_20 (by decide) (fun c15 => ?_) (fun c15 => ?_)
        · skip
          have f16 : y10.toInt ≠ 0 := b_neq rfl (by decide) c15
          refine lv_iconst (v := 1) hx hb dX12_isCandidate_34 (by decide) ?_
          refine lv_goto (tgt := 39) hx hb dX12_isCandidate_35 (by decide) ?_
          refine lv_istore (lv' := [(4, .int 1), (5, .int y9), (3, .int z2), (0, .ref (ad 0)), (1, .int p0), (2, .int p1)]) hx hb dX12_isCandidate_39 hl (by decide) rfl (fun ls hl => ?_)
          obtain ⟨z17, ez17⟩ : ∃ y : Int32, y = y9 + 1 := ⟨_, rfl⟩
          have hz17 : z17.toInt = y9.toInt + 1 := i_add ez17 rfl (by decide) (by omega)
          refine lv_iinc (v := z17) (lv' := [(5, .int z17), (4, .int 1), (3, .int z2), (0, .ref (ad 0)), (1, .int p0), (2, .int p1)]) hx hb dX12_isCandidate_41 hl (k := 1) rfl (by rw [ez17]; rfl) (by decide) rfl (fun ls hl => ?_)
          refine lv_goto (tgt := 12) hx hb dX12_isCandidate_44 (by decide) ?_
          have r18 : Int32.toInt 1 = 1 := by decide
          exact ihlp11 z17 1 H locs ls (by omega) (by decide) (show z17.toInt ≤ z2.toInt from by omega) (Imp.mk (fun _ => Imp.go xlp11_1 (by omega))) (by omega) hP hD hS (lv_sub hl [0, 1, 2, 3, 4, 5] rfl)
        · skip
          have f19 : y10.toInt = 0 := b_eq rfl (by decide) c15
          refine lv_aload_n hx hb dX12_isCandidate_23 rfl (lv_at hl 3 rfl) ?_
          refine va_get (D := D) (ci := 12) (v := .ref (ad 80)) (C := RX12) (T := TX12) (N := 100) hx hb hg inX12 hown hK hP 0 rfl rfl 80 (by decide) (hg _ w1786) (fun _ h9 => h9) rfl dX12_isCandidate_24 ?_
          refine lv_iload hx hb dX12_isCandidate_27 (lv_at hl 0 rfl) ?_
          refine va_iald (D := D) (i := y9) hx hb hK hP 57 56 rfl rfl (i_in (a := y9.toInt) rfl (by omega)) dX12_isCandidate_29 ?_
          have r20 : 0 ≤ ((V7 80 (Int32.toNatClampNeg y9))).toInt ∧ ((V7 80 (Int32.toNatClampNeg y9))).toInt ≤ 23 := hMV7 80 (Int32.toNatClampNeg y9)
          refine lv_iload_n hx hb dX12_isCandidate_30 rfl (lv_at hl 5 rfl) ?_
          refine lv_icmp_ne (tgt := 38) hx hb dX12_isCandidate_31 (by decide) (fun c21 => ?_) (fun c21 => ?_)
          · skip
            have f22 : ((V7 80 (Int32.toNatClampNeg y9))).toInt ≠ p1.toInt := b_neq rfl rfl c21
            refine lv_iconst (v := 0) hx hb dX12_isCandidate_38 (by decide) ?_
            refine lv_istore (lv' := [(4, .int 0), (5, .int y9), (3, .int z2), (0, .ref (ad 0)), (1, .int p0), (2, .int p1)]) hx hb dX12_isCandidate_39 hl (by decide) rfl (fun ls hl => ?_)
            obtain ⟨z23, ez23⟩ : ∃ y : Int32, y = y9 + 1 := ⟨_, rfl⟩
            have hz23 : z23.toInt = y9.toInt + 1 := i_add ez23 rfl (by decide) (by omega)
            refine lv_iinc (v := z23) (lv' := [(5, .int z23), (4, .int 0), (3, .int z2), (0, .ref (ad 0)), (1, .int p0), (2, .int p1)]) hx hb dX12_isCandidate_41 hl (k := 1) rfl (by rw [ez23]; rfl) (by decide) rfl (fun ls hl => ?_)
            refine lv_goto (tgt := 12) hx hb dX12_isCandidate_44 (by decide) ?_
            have r24 : Int32.toInt 0 = 0 := by decide
            exact ihlp11 z23 0 H locs ls (by omega) (by decide) (show z23.toInt ≤ z2.toInt from by omega) (Imp.mk (fun hp => absurd hp (by decide))) (by omega) hP hD hS (lv_sub hl [0, 1, 2, 3, 4, 5] rfl)
          · skip
            have f25 : ((V7 80 (Int32.toNatClampNeg y9))).toInt = p1.toInt := b_eq rfl rfl c21
            refine lv_iconst (v := 1) hx hb dX12_isCandidate_34 (by decide) ?_
            refine lv_goto (tgt := 39) hx hb dX12_isCandidate_35 (by decide) ?_
            refine lv_istore (lv' := [(4, .int 1), (5, .int y9), (3, .int z2), (0, .ref (ad 0)), (1, .int p0), (2, .int p1)]) hx hb dX12_isCandidate_39 hl (by decide) rfl (fun ls hl => ?_)
            obtain ⟨z26, ez26⟩ : ∃ y : Int32, y = y9 + 1 := ⟨_, rfl⟩
            have hz26 : z26.toInt = y9.toInt + 1 := i_add ez26 rfl (by decide) (by omega)
            refine lv_iinc (v := z26) (lv' := [(5, .int z26), (4, .int 1), (3, .int z2), (0, .ref (ad 0)), (1, .int p0), (2, .int p1)]) hx hb dX12_isCandidate_41 hl (k := 1) rfl (by rw [ez26]; rfl) (by decide) rfl (fun ls hl => ?_)
            refine lv_goto (tgt := 12) hx hb dX12_isCandidate_44 (by decide) ?_
            have r27 : Int32.toInt 1 = 1 := by decide
            exact ihlp11 z26 1 H locs ls (by omega) (by decide) (show z26.toInt ≤ z2.toInt from by omega) (Imp.mk (fun _ => by have kc := i_clamp (x := y9) rfl (by omega); have h9 := t5 (Int32.toNatClampNeg y9) (by omega); have e9 : V7 80 (Int32.toNatClampNeg y9) = p1 := Int32.toInt_inj.mp (by omega); rw [e9] at h9; exact h9)) (by omega) hP hD hS (lv_sub hl [0, 1, 2, 3, 4, 5] rfl)
  have r28 : Int32.toInt 0 = 0 := by decide
  exact lp11 ((z2.toInt - (Int32.toInt 0) + 1 : Int).toNat) 0 0 H locs ls (by decide) (by decide) (show (Int32.toInt 0) ≤ z2.toInt from by omega) (Imp.mk (fun hp => absurd hp (by decide))) (by omega) hP hD hS (lv_sub hl [0, 1, 2, 3, 4, 5] rfl)
