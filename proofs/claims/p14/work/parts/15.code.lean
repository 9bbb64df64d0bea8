/-! where the next order goes; what was laid, over many steps -/
def pA (V : Vf) : Nat := ((V 0 49).toInt + (V 0 48).toInt).toNat
def pE (V : Vf) : Nat := ((V 0 49).toInt + 10000).toNat
theorem pA_i {V : Vf} (h : rgd bM V) : (pA V : Int) = (V 0 49).toInt + (V 0 48).toInt := by
  have h1 : (0 : Int) ≤ (V 0 49).toInt ∧ (V 0 49).toInt ≤ 10000 := h 0 49
  have h2 : (0 : Int) ≤ (V 0 48).toInt ∧ (V 0 48).toInt ≤ 10000 := h 0 48
  unfold pA
  omega
theorem pE_i {V : Vf} (h : rgd bM V) : (pE V : Int) = (V 0 49).toInt + 10000 := by
  have h1 : (0 : Int) ≤ (V 0 49).toInt ∧ (V 0 49).toInt ≤ 10000 := h 0 49
  unfold pE
  omega
theorem sameX.up {V V1 : Vf} {c k : Nat} {v : Int32} {a b : Nat} (h : V1 = up2 V c k v) (h1 : ¬ 45 = c) (h2 : ¬ 46 = c) (h3 : ¬ 47 = c) : sameX V V1 a b := fun _ _ => ⟨up2_o h h1, up2_o h h2, up2_o h h3⟩
theorem sameX.put {V V1 : Vf} {k : Nat} {v : Int32} {a b : Nat} (h : V1 = up2 V 46 k v) (h1 : a ≤ k) (h2 : k < b) : sameX V V1 a b := fun i hi => ⟨up2_o h (by decide), up2_k h (by omega), up2_o h (by decide)⟩
theorem same3.put {V V1 : Vf} {k : Nat} {v : Int32} {x y : Nat} (h : V1 = up2 V 46 k v) (h1 : k < x ∨ y ≤ k) : same3 V V1 x y := fun i h2 h3 => ⟨up2_o h (by decide), up2_k h (by omega), up2_o h (by decide)⟩
theorem sameX.cut {V W : Vf} {a b a' b' : Nat} (h : sameX V W a b) (ha : a' ≤ a) (hb : b ≤ b') : sameX V W a' b' := fun i hi => h i (by omega)
theorem sameX.at3 {V W : Vf} {x y i : Nat} (h : sameX V W x y) (hi : i < x) : oc W i = oc V i ∧ oa W i = oa V i ∧ ob W i = ob V i :=
  have q := h i (Or.inl hi)
  ⟨congrArg Int32.toInt q.1, congrArg Int32.toInt q.2.1, congrArg Int32.toInt q.2.2⟩
theorem emitted.at3 {V W : Vf} {A : Nat} {a b c : Int32} (h : emitted V W A a b c) : oc W A = a.toInt ∧ oa W A = b.toInt ∧ ob W A = c.toInt := ⟨congrArg Int32.toInt h.1.1, congrArg Int32.toInt h.1.2.1, congrArg Int32.toInt h.1.2.2⟩
theorem WE.mv {nd : Int} {ar : Bool} {V W : Vf} {z a b x y : Nat} (h : WE nd ar V z a b) (hs : sameX V W x y) (hb : b ≤ x) : WE nd ar W z a b := h.same (hs.three (Or.inl hb))
theorem WE.cast {nd : Int} {ar : Bool} {V : Vf} {z a b a' b' : Nat} (h : WE nd ar V z a b) (ha : a = a') (hb : b = b') : WE nd ar V z a' b' := by subst ha; subst hb; exact h
/-! the words: all different -/
def wd (L : Lf) : Prop := ∀ j k : Nat, j < 28 → k < 28 → j ≠ k → L 10 j ≠ L 10 k
/-- the token at the place is the word k -/
def atW (V : Vf) (L : Lf) (k : Nat) : Prop := (V 4 (Int32.toNatClampNeg (V 0 7))).toInt = 1 ∧ L 6 (Int32.toNatClampNeg (V 0 7)) = L 10 k
theorem atW.ne {V : Vf} {L : Lf} {j k : Nat} (w : wd L) (h : atW V L j) (hj : j < 28) (hk : k < 28) (hn : j ≠ k) : ¬ atW V L k := fun q => w j k hj hk hn (h.2.symm.trans q.2)
theorem atW.back {V V1 : Vf} {L : Lf} {k : Nat} (h : atW V1 L k) (e : (V1 0 7).toInt = (V 0 7).toInt) (e4 : ∀ i, V1 4 i = V 4 i) : atW V L k := by
  have e1 : V1 0 7 = V 0 7 := Int32.toInt_inj.mp e
  unfold atW at h ⊢
  rw [e1, e4] at h
  exact h
/-- what an E may say: needs below nd, go only within an around -/
def cP (V : Vf) (L : Lf) (nd : Int) (ar : Bool) : Prop := (0 ≤ (V 0 51).toInt → (V 27 (Int32.toNatClampNeg (V 0 51))).toInt ≤ nd) ∧ ((V 0 52).toInt = 1 → ar = true) ∧ wd L
theorem cP.ag {fs : List (Nat × Nat)} {cs : List Nat} {V W : Vf} {L L' : Lf} {nd : Int} {ar : Bool} (h : cP V L nd ar) (a : agr fs cs V W) (b : agL cs L L') (h1 : wrL fs cs 0 51 = false) (h2 : wrL fs cs 0 52 = false) (h3 : ∀ k, wrL fs cs 27 k = false) (h4 : cs.contains 10 = false) : cP W L' nd ar := by
  refine ⟨?_, ?_, ?_⟩
  · rw [a _ _ (h3 _), a 0 51 h1]
    exact h.1
  · rw [a 0 52 h2]
    exact h.2.1
  · intro j k q1 q2 q3
    rw [b 10 j h4, b 10 k h4]
    exact h.2.2 j k q1 q2 q3
theorem flt_up {V V1 : Vf} {c k : Nat} {v : Int32} (h : V1 = up2 V c k v) (hc : ¬ 0 = c ∨ ¬ 8 = k) (h0 : (V1 0 8).toInt = 0) : (V 0 8).toInt = 0 := by
  rcases hc with hc | hc
  · rw [up2_o h hc] at h0
    exact h0
  · by_cases h1 : 0 = c
    · subst h1
      rw [up2_k h hc] at h0
      exact h0
    · rw [up2_o h h1] at h0
      exact h0
theorem flt_ag {fs : List (Nat × Nat)} {cs : List Nat} {V W : Vf} (h : agr fs cs V W) (hw : wrL fs cs 0 8 = false) (h0 : (W 0 8).toInt = 0) : (V 0 8).toInt = 0 := by
  rw [h 0 8 hw] at h0
  exact h0
/-! steps that lay nothing; where the next order goes behind a step -/
def sameA (V W : Vf) : Prop := ∀ i, W 45 i = V 45 i ∧ W 46 i = V 46 i ∧ W 47 i = V 47 i
theorem sameA.rf {V : Vf} : sameA V V := fun _ => ⟨rfl, rfl, rfl⟩
theorem sameA.ag {fs : List (Nat × Nat)} {cs : List Nat} {V W : Vf} (h : agr fs cs V W) (h1 : ∀ k, wrL fs cs 45 k = false) (h2 : ∀ k, wrL fs cs 46 k = false) (h3 : ∀ k, wrL fs cs 47 k = false) : sameA V W := fun i => ⟨h _ _ (h1 i), h _ _ (h2 i), h _ _ (h3 i)⟩
theorem sameA.X {V W : Vf} {a b : Nat} (h : sameA V W) : sameX V W a b := fun i _ => h i
theorem pA_ag {fs : List (Nat × Nat)} {cs : List Nat} {V W : Vf} (h : agr fs cs V W) (h1 : wrL fs cs 0 48 = false) (h2 : wrL fs cs 0 49 = false) : pA W = pA V ∧ pE W = pE V := by
  unfold pA pE
  rw [h _ _ h1, h _ _ h2]
  exact ⟨rfl, rfl⟩
theorem pA_up {V W : Vf} {c k : Nat} {v : Int32} (h : W = up2 V c k v) (hc : ¬ 0 = c) : pA W = pA V ∧ pE W = pE V := by
  unfold pA pE
  rw [up2_o h hc, up2_o h hc]
  exact ⟨rfl, rfl⟩
theorem pA_em {fs : List (Nat × Nat)} {cs : List Nat} {V W : Vf} (hV : rgd bM V) (hW : rgd bM W) (h : agr fs cs V W) (h2 : wrL fs cs 0 49 = false) (h1 : (W 0 48).toInt = (V 0 48).toInt + 1) : pA W = pA V + 1 ∧ pE W = pE V := by
  have a := pA_i hV
  have b := pA_i hW
  have c := pE_i hV
  have d := pE_i hW
  rw [h _ _ h2] at b d
  omega
theorem pA_gr {fs : List (Nat × Nat)} {cs : List Nat} {V W : Vf} (hV : rgd bM V) (hW : rgd bM W) (h : agr fs cs V W) (h2 : wrL fs cs 0 49 = false) (h1 : (V 0 48).toInt ≤ (W 0 48).toInt) : pA V ≤ pA W ∧ pE W = pE V := by
  have a := pA_i hV
  have b := pA_i hW
  have c := pE_i hV
  have d := pE_i hW
  rw [h _ _ h2] at b d
  omega
theorem pA_lt {V : Vf} (hV : rgd bM V) (h1 : (V 0 48).toInt ≤ 9999) : pA V < pE V := by
  have a := pA_i hV
  have c := pE_i hV
  omega
theorem pick_x {V A0 G1 B1 U1 G2 B2 U2 P1 G3 B3 P2 : Vf} {k1 k2 : Nat} {v1 v2 a b c a' b' c' : Int32}
    (t1 : sameA V A0) (x1 : sameX A0 G1 (pA A0) (pE A0)) (t2 : sameA G1 B1) (e1 : emitted B1 U1 (pA B1) a b c) (x2 : sameX U1 G2 (pA U1) (pE U1)) (t3 : sameA G2 B2) (e2 : emitted B2 U2 (pA B2) a' b' c')
    (p1 : P1 = up2 U2 46 k1 v1) (x3 : sameX P1 G3 (pA P1) (pE P1)) (t4 : sameA G3 B3) (p2 : P2 = up2 B3 46 k2 v2)
    (n0 : pA A0 = pA V ∧ pE A0 = pE V) (g1 : pA A0 ≤ pA G1 ∧ pE G1 = pE A0) (n1 : pA B1 = pA G1 ∧ pE B1 = pE G1) (n2 : pA U1 = pA B1 + 1 ∧ pE U1 = pE B1) (g2 : pA U1 ≤ pA G2 ∧ pE G2 = pE U1) (n3 : pA B2 = pA G2 ∧ pE B2 = pE G2) (n4 : pA U2 = pA B2 + 1 ∧ pE U2 = pE B2) (n5 : pA P1 = pA U2 ∧ pE P1 = pE U2)
    (l1 : pA B1 < pE B1) (l2 : pA B2 < pE B2) (k1e : k1 = pA B1) (k2e : k2 = pA B2) : sameX V P2 (pA V) (pE V) := by
  have y1 : sameX V A0 (pA V) (pE V) := t1.X
  have y2 : sameX A0 G1 (pA V) (pE V) := x1.cut (by omega) (by omega)
  have y3 : sameX G1 B1 (pA V) (pE V) := t2.X
  have y4 : sameX B1 U1 (pA V) (pE V) := e1.X (by omega) (by omega)
  have y5 : sameX U1 G2 (pA V) (pE V) := x2.cut (by omega) (by omega)
  have y6 : sameX G2 B2 (pA V) (pE V) := t3.X
  have y7 : sameX B2 U2 (pA V) (pE V) := e2.X (by omega) (by omega)
  have y8 : sameX U2 P1 (pA V) (pE V) := sameX.put p1 (by omega) (by omega)
  have y9 : sameX P1 G3 (pA V) (pE V) := x3.cut (by omega) (by omega)
  have y10 : sameX G3 B3 (pA V) (pE V) := t4.X
  have y11 : sameX B3 P2 (pA V) (pE V) := sameX.put p2 (by omega) (by omega)
  have r := Nat.le_refl (pA V)
  exact (((((((((y1.tr y2 r).tr y3 r).tr y4 r).tr y5 r).tr y6 r).tr y7 r).tr y8 r).tr y9 r).tr y10 r).tr y11 r
theorem pick_we {nd : Int} {ar : Bool} {V A0 G1 B1 U1 G2 B2 U2 P1 G3 B3 P2 : Vf} {z a0 k1 k2 : Nat} {v1 v2 : Int32}
    (t1 : sameA V A0) (x1 : sameX A0 G1 (pA A0) (pE A0)) (w1 : WE nd ar G1 z (pA A0) (pA G1)) (t2 : sameA G1 B1) (e1 : emitted B1 U1 (pA B1) 12 0 0) (x2 : sameX U1 G2 (pA U1) (pE U1)) (w2 : WE nd ar G2 z (pA U1) (pA G2)) (t3 : sameA G2 B2) (e2 : emitted B2 U2 (pA B2) 13 0 0)
    (p1 : P1 = up2 U2 46 k1 v1) (x3 : sameX P1 G3 (pA P1) (pE P1)) (w3 : WE nd ar G3 z (pA P1) (pA G3)) (t4 : sameA G3 B3) (p2 : P2 = up2 B3 46 k2 v2)
    (n0 : pA A0 = pA V ∧ pE A0 = pE V) (n1 : pA B1 = pA G1 ∧ pE B1 = pE G1) (n2 : pA U1 = pA B1 + 1 ∧ pE U1 = pE B1) (n3 : pA B2 = pA G2 ∧ pE B2 = pE G2) (n4 : pA U2 = pA B2 + 1 ∧ pE U2 = pE B2) (n5 : pA P1 = pA U2 ∧ pE P1 = pE U2) (n6 : pA B3 = pA G3 ∧ pE B3 = pE G3) (n7 : pA P2 = pA B3 ∧ pE P2 = pE B3)
    (k1e : k1 = pA B1) (k2e : k2 = pA B2) (v1e : v1.toInt = (pA P1 : Int)) (v2e : v2.toInt = (pA B3 : Int)) (s1 : pA V = a0 + 1) (s2 : oc V a0 = 1) : WE nd ar P2 z a0 (pA P2) := by
  have f1 := w1.lt
  have f2 := w2.lt
  have f3 := w3.lt
  -- steps from B1 on keep what is below pA B1, and so on
  have z1 : same3 G1 P2 0 (pA B1) := ((((((((t2.X (a := pA B1) (b := 0)).three (Or.inl (Nat.le_refl _))).tr (e1.same (Or.inl (Nat.le_refl _)))).tr (x2.three (Or.inl (by omega)))).tr ((t3.X (a := pA B1) (b := 0)).three (Or.inl (Nat.le_refl _)))).tr (e2.same (Or.inl (by omega)))).tr (same3.put p1 (Or.inr (by omega)))).tr ((x3.three (Or.inl (by omega))).tr ((t4.X (a := pA B1) (b := 0)).three (Or.inl (Nat.le_refl _))))).tr (same3.put p2 (Or.inr (by omega)))
  have z2 : same3 G2 P2 (pA U1) (pA B2) := (((((t3.X (a := pA B2) (b := 0)).three (Or.inl (Nat.le_refl _))).tr (e2.same (Or.inl (Nat.le_refl _)))).tr (same3.put p1 (Or.inl (by omega)))).tr ((x3.three (Or.inl (by omega))).tr ((t4.X (a := pA B2) (b := 0)).three (Or.inl (Nat.le_refl _))))).tr (same3.put p2 (Or.inr (by omega)))
  have z3 : same3 G3 P2 (pA P1) (pA G3) := ((t4.X (a := pA G3) (b := 0)).three (Or.inl (Nat.le_refl _))).tr (same3.put p2 (Or.inl (by omega)))
  have c1 := (w1.same (z1.sub (Nat.zero_le _) (by omega)))
  have c2 := (w2.same (z2.sub (Nat.le_refl _) (by omega)))
  have c3 := (w3.same z3)
  -- the orders
  have h0 : oc P2 a0 = 1 := by
    have q1 := (t1 a0).1
    have q2 := (x1 a0 (Or.inl (by omega))).1
    have q3 := (z1 a0 (Nat.zero_le _) (by omega)).1
    unfold oc at s2 ⊢
    rw [q3, q2, q1]
    exact s2
  have o1 := emitted.at3 e1
  have o2 := emitted.at3 e2
  have y1 : same3 U1 U2 (pA B1) (pA B1 + 1) := ((x2.three (Or.inl (by omega))).tr ((t3.X (a := pA B1 + 1) (b := 0)).three (Or.inl (Nat.le_refl _)))).tr (e2.same (Or.inl (by omega)))
  have y2 : same3 P1 P2 (pA B1) (pA B1 + 1) := ((x3.three (Or.inl (by omega))).tr ((t4.X (a := pA B1 + 1) (b := 0)).three (Or.inl (Nat.le_refl _)))).tr (same3.put p2 (Or.inr (by omega)))
  have q1 : oc P2 (pA B1) = 12 := by
    rw [y2.oc (Nat.le_refl _) (by omega)]
    have h : oc P1 (pA B1) = oc U2 (pA B1) := congrArg Int32.toInt (up2_o p1 (by decide))
    rw [h, y1.oc (Nat.le_refl _) (by omega), o1.1]
    rfl
  have q2 : oa P2 (pA B1) = (pA B2 : Int) + 1 := by
    rw [y2.oa (Nat.le_refl _) (by omega)]
    have h : oa P1 (pA B1) = v1.toInt := by rw [← k1e]; exact congrArg Int32.toInt (up2_s p1)
    omega
  have y3 : same3 P1 B3 (pA B2) (pA B2 + 1) := (x3.three (Or.inl (by omega))).tr ((t4.X (a := pA B2 + 1) (b := 0)).three (Or.inl (Nat.le_refl _)))
  have q3 : oc P2 (pA B2) = 13 := by
    have h : oc P2 (pA B2) = oc B3 (pA B2) := congrArg Int32.toInt (up2_o p2 (by decide))
    have h2 : oc P1 (pA B2) = oc U2 (pA B2) := congrArg Int32.toInt (up2_o p1 (by decide))
    rw [h, y3.oc (Nat.le_refl _) (by omega), h2, o2.1]
    rfl
  have q4 : oa P2 (pA B2) = (pA P2 : Int) := by
    have h : oa P2 (pA B2) = v2.toInt := by rw [← k2e]; exact congrArg Int32.toInt (up2_s p2)
    omega
  exact WE_pick (m1 := pA B1) (m2 := pA B2) h0 (c1.cast (by omega) (by omega)) q1 q2 (c2.cast (by omega) (by omega)) q3 q4 (c3.cast (by omega) (by omega))


abbrev r_s_isSign3 : Room := { frames := 0, cells := 0, slots := 0, locals := 0 }
abbrev q_s_isSign3 (D : va_G) (ks : KS) (ad : Nat → Nat) (kk : Nat → ClassId) (V : Vf) (L : Lf) (p0 : Int32) (n : Nat) (A : Nat → Prop) : Array Value → State → Outcome → State → Prop := va_Qi (fun (r : Int32) (_ : Unit) => (0 ≤ r.toInt ∧ r.toInt ≤ 1) ∧ (Imp (r.toInt = 1) ((V 0 8).toInt = 0 ∧ 0 ≤ (V 0 7).toInt ∧ (V 0 7).toInt < n)) ∧ (Imp (r.toInt = 1) ((V 4 (Int32.toNatClampNeg (V 0 7))).toInt = 3))) (fun _ t => gq D A (mw ad kk ks.1 V L) (mty kk) t) A
set_option maxHeartbeats 4000000 in
set_option maxRecDepth 100000 in
theorem s_isSign3 (l : Launch) (D : va_G) (ks : KS) (sz : Nat) (ad : Nat → Nat) (kk : Nat → ClassId) (V : Vf) (L : Lf) (p0 : Int32) (n : Nat) (hMV : rgd bM V) (x1 : (V 4 n).toInt = 0) (x2 : n ≤ 4000) (x3 : Imp ((V 0 8).toInt = 0) (0 ≤ (V 0 7).toInt ∧ (V 0 7).toInt ≤ n))  : Met l yX12_isSign (Cond.code yX12_isSign cX12_isSign 2 (some .boolean) :: GW) r_s_isSign3 (va_Pc [.ref (ad 0), .int p0] (gp D ks (mw ad kk ks.1 V L) (mty kk) sz)) (q_s_isSign3 D ks ad kk V L p0 n (va_A (mw ad kk ks.1 V L) sz)) 0 0 (va_A (mw ad kk ks.1 V L) sz) := by
  refine g_met (q_s_isSign3 D ks ad kk V L p0 n) (by decide) (Nat.le_of_ble_eq_true rfl) ?_
  intro p e s m below meth c A ls H locs hx hb hr hml hown hg hlocks hin hnw hgk hP hK hD hS hA hl
  have hown : s.vm.findClass RX12 = some m.cls := hown
  have hl : lv_has ls 2 [(0, .ref (ad 0)), (1, .int p0)] := hl
  have hP : va_P D vwCl (mw ad kk ks.1 V L) H := hP
  have hD : va_D A (mw ad kk ks.1 V L) := hD
  have hK : va_K D vwCl (mty kk) s := hK
  have r1 : 0 ≤ ((V 0 8)).toInt ∧ ((V 0 8)).toInt ≤ 70000 := hMV 0 8
  refine lv_aload_n hx hb dX12_isSign_0 rfl (lv_at hl 0 rfl) ?_
  refine va_get (D := D) (ci := 12) (v := .int (V 0 8)) (C := RX12) (T := TX12) (N := 100) hx hb hg inX12 hown hK hP 0 rfl rfl 8 (by decide) (hg _ w1714) (fun _ h9 => h9) rfl dX12_isSign_1 ?_
  refine lv_if_ne (tgt := 39) hx hb dX12_isSign_4 (by decide) (fun c2 => ?_) (fun c2 => ?_)
  · skip
    have f3 : ((V 0 8)).toInt ≠ 0 := b_neq rfl (by decide) c2
    refine lv_iconst (v := 0) hx hb dX12_isSign_39 (by decide) ?_
    exact W.zret (v := 0) hx hb hr rfl (fun t ht hW => ⟨⟨0, (), rfl, ⟨(by decide), (Imp.mk (fun hp => absurd hp (by decide))), (Imp.mk (fun hp => absurd hp (by decide)))⟩, by rw [ht]; exact hP, va_K.moved hW.alike hK, hD⟩, hS.F ht⟩) hS.2.2 dX12_isSign_40
  · skip
    have f4 : ((V 0 8)).toInt = 0 := b_eq rfl (by decide) c2
    refine lv_aload_n hx hb dX12_isSign_7 rfl (lv_at hl 0 rfl) ?_
    refine va_get (D := D) (ci := 12) (v := .ref (ad 4)) (C := RX12) (T := TX12) (N := 100) hx hb hg inX12 hown hK hP 0 rfl rfl 4 (by decide) (hg _ w1710) (fun _ h9 => h9) rfl dX12_isSign_8 ?_
    refine lv_aload_n hx hb dX12_isSign_11 rfl (lv_at hl 0 rfl) ?_
    refine va_get (D := D) (ci := 12) (v := .int (V 0 7)) (C := RX12) (T := TX12) (N := 100) hx hb hg inX12 hown hK hP 0 rfl rfl 7 (by decide) (hg _ w1713) (fun _ h9 => h9) rfl dX12_isSign_12 ?_
    refine va_iald (D := D) (i := (V 0 7)) hx hb hK hP 2 1 rfl rfl (i_in (a := ((V 0 7)).toInt) rfl (by first | omega | ((try (have i_x3 := Imp.go x3 (by omega))); omega))) dX12_isSign_15 ?_
    have t5 := tok_ne (V := V) (x := (V 0 7)) (n := n) x1 (by first | omega | ((try (have i_x3 := Imp.go x3 (by omega))); omega))
    refine lv_iconst (v := 3) hx hb dX12_isSign_16 (by decide) ?_
    refine lv_icmp_ne (tgt := 39) hx hb dX12_isSign_17 (by decide) (fun c6 => ?_) (fun c6 => ?_)
    · skip
      have f7 : ((V 4 (Int32.toNatClampNeg (V 0 7)))).toInt ≠ 3 := b_neq rfl (by decide) c6
      refine lv_iconst (v := 0) hx hb dX12_isSign_39 (by decide) ?_
      exact W.zret (v := 0) hx hb hr rfl (fun t ht hW => ⟨⟨0, (), rfl, ⟨(by decide), (Imp.mk (fun hp => absurd hp (by decide))), (Imp.mk (fun hp => absurd hp (by decide)))⟩, by rw [ht]; exact hP, va_K.moved hW.alike hK, hD⟩, hS.F ht⟩) hS.2.2 dX12_isSign_40
    · skip
      have f8 : ((V 4 (Int32.toNatClampNeg (V 0 7)))).toInt = 3 := b_eq rfl (by decide) c6
      refine lv_aload_n hx hb dX12_isSign_20 rfl (lv_at hl 0 rfl) ?_
      refine va_get (D := D) (ci := 12) (v := .ref (ad 6)) (C := RX12) (T := TX12) (N := 100) hx hb hg inX12 hown hK hP 0 rfl rfl 6 (by decide) (hg _ w1712) (fun _ h9 => h9) rfl dX12_isSign_21 ?_
      refine lv_aload_n hx hb dX12_isSign_24 rfl (lv_at hl 0 rfl) ?_
      refine va_get (D := D) (ci := 12) (v := .int (V 0 7)) (C := RX12) (T := TX12) (N := 100) hx hb hg inX12 hown hK hP 0 rfl rfl 7 (by decide) (hg _ w1713) (fun _ h9 => h9) rfl dX12_isSign_25 ?_
      refine va_lald (D := D) (i := (V 0 7)) hx hb hK hP 4 3 rfl rfl (i_in (a := ((V 0 7)).toInt) rfl (by first | omega | ((try (have i_t5 := Imp.go t5 (by omega))); (try (have i_x3 := Imp.go x3 (by omega))); (try (have i_x3 := Imp.go x3 (by omega))); (try (have i_t5 := Imp.go t5 (by omega))); omega))) dX12_isSign_28 ?_
      refine lv_topl (fun w9 ew9 => ?_)
      refine lv_iload_n hx hb dX12_isSign_29 rfl (lv_at hl 1 rfl) ?_
      refine lv_i2l hx hb dX12_isSign_30 rfl ?_
      refine lv_topl (fun w10 ew10 => ?_)
      refine W.lcmp hx hb dX12_isSign_31 ?_
      refine lv_topi (fun z11 ez11 => ?_)
      have hz11 : -1 ≤ z11.toInt ∧ z11.toInt ≤ 1 := lcmp_r ez11
      refine lv_if_ne (tgt := 39) hx hb dX12_isSign_32 (by decide) (fun c12 => ?_) (fun c12 => ?_)
      · skip
        have f13 : z11.toInt ≠ 0 := b_neq rfl (by decide) c12
        refine lv_iconst (v := 0) hx hb dX12_isSign_39 (by decide) ?_
        exact W.zret (v := 0) hx hb hr rfl (fun t ht hW => ⟨⟨0, (), rfl, ⟨(by decide), (Imp.mk (fun hp => absurd hp (by decide))), (Imp.mk (fun hp => absurd hp (by decide)))⟩, by rw [ht]; exact hP, va_K.moved hW.alike hK, hD⟩, hS.F ht⟩) hS.2.2 dX12_isSign_40
      · skip
        have f14 : z11.toInt = 0 := b_eq rfl (by decide) c12
        refine lv_iconst (v := 1) hx hb dX12_isSign_35 (by decide) ?_
        refine lv_goto (tgt := 40) hx hb dX12_isSign_36 (by decide) ?_
        exact W.zret (v := 1) hx hb hr rfl (fun t ht hW => ⟨⟨1, (), rfl, ⟨(by decide), (Imp.mk (fun _ => (show (V 0 8).toInt = 0 ∧ 0 ≤ (V 0 7).toInt ∧ (V 0 7).toInt < n from by first | omega | ((try (have i_t5 := Imp.go t5 (by omega))); (try (have i_x3 := Imp.go x3 (by omega))); (try (have i_x3 := Imp.go x3 (by omega))); (try (have i_t5 := Imp.go t5 (by omega))); omega)))), (Imp.mk (fun _ => (show (V 4 (Int32.toNatClampNeg (V 0 7))).toInt = 3 from by first | omega | ((try (have i_t5 := Imp.go t5 (by omega))); (try (have i_x3 := Imp.go x3 (by omega))); (try (have i_x3 := Imp.go x3 (by omega))); (try (have i_t5 := Imp.go t5 (by omega))); omega))))⟩, by rw [ht]; exact hP, va_K.moved hW.alike hK, hD⟩, hS.F ht⟩) hS.2.2 dX12_isSign_40
abbrev r_s_isWord3 : Room := { frames := 0, cells := 0, slots := 0, locals := 0 }
abbrev q_s_isWord3 (D : va_G) (ks : KS) (ad : Nat → Nat) (kk : Nat → ClassId) (V : Vf) (L : Lf) (p0 : Int32) (n : Nat) (A : Nat → Prop) : Array Value → State → Outcome → State → Prop := va_Qi (fun (r : Int32) (_ : Unit) => (0 ≤ r.toInt ∧ r.toInt ≤ 1) ∧ (Imp (r.toInt = 1) ((V 0 8).toInt = 0 ∧ 0 ≤ (V 0 7).toInt ∧ (V 0 7).toInt < n)) ∧ (Imp (r.toInt = 1) (atW V L (Int32.toNatClampNeg p0)))) (fun _ t => gq D A (mw ad kk ks.1 V L) (mty kk) t) A
set_option maxHeartbeats 4000000 in
set_option maxRecDepth 100000 in
theorem s_isWord3 (l : Launch) (D : va_G) (ks : KS) (sz : Nat) (ad : Nat → Nat) (kk : Nat → ClassId) (V : Vf) (L : Lf) (p0 : Int32) (n : Nat) (hMV : rgd bM V) (rg_p0 : 0 ≤ p0.toInt ∧ p0.toInt ≤ 29) (x1 : (V 4 n).toInt = 0) (x2 : n ≤ 4000) (x3 : Imp ((V 0 8).toInt = 0) (0 ≤ (V 0 7).toInt ∧ (V 0 7).toInt ≤ n))  : Met l yX12_isWord (Cond.code yX12_isWord cX12_isWord 2 (some .boolean) :: GW) r_s_isWord3 (va_Pc [.ref (ad 0), .int p0] (gp D ks (mw ad kk ks.1 V L) (mty kk) sz)) (q_s_isWord3 D ks ad kk V L p0 n (va_A (mw ad kk ks.1 V L) sz)) 0 0 (va_A (mw ad kk ks.1 V L) sz) := by
  refine g_met (q_s_isWord3 D ks ad kk V L p0 n) (by decide) (Nat.le_of_ble_eq_true rfl) ?_
  intro p e s m below meth c A ls H locs hx hb hr hml hown hg hlocks hin hnw hgk hP hK hD hS hA hl
  have hown : s.vm.findClass RX12 = some m.cls := hown
  have hl : lv_has ls 2 [(0, .ref (ad 0)), (1, .int p0)] := hl
  have hP : va_P D vwCl (mw ad kk ks.1 V L) H := hP
  have hD : va_D A (mw ad kk ks.1 V L) := hD
  have hK : va_K D vwCl (mty kk) s := hK
  have rf_p0 := i_full p0
  have r1 : 0 ≤ ((V 0 8)).toInt ∧ ((V 0 8)).toInt ≤ 70000 := hMV 0 8
  refine lv_aload_n hx hb dX12_isWord_0 rfl (lv_at hl 0 rfl) ?_
  refine va_get (D := D) (ci := 12) (v := .int (V 0 8)) (C := RX12) (T := TX12) (N := 100) hx hb hg inX12 hown hK hP 0 rfl rfl 8 (by decide) (hg _ w1714) (fun _ h9 => h9) rfl dX12_isWord_1 ?_
  refine lv_if_ne (tgt := 43) hx hb dX12_isWord_4 (by decide) (fun c2 => ?_) (fun c2 => ?_)
  · skip
    have f3 : ((V 0 8)).toInt ≠ 0 := b_neq rfl (by decide) c2
    refine lv_iconst (v := 0) hx hb dX12_isWord_43 (by decide) ?_
    exact W.zret (v := 0) hx hb hr rfl (fun t ht hW => ⟨⟨0, (), rfl, ⟨(by decide), (Imp.mk (fun hp => absurd hp (by decide))), (Imp.mk (fun hp => absurd hp (by decide)))⟩, by rw [ht]; exact hP, va_K.moved hW.alike hK, hD⟩, hS.F ht⟩) hS.2.2 dX12_isWord_44
  · skip
    have f4 : ((V 0 8)).toInt = 0 := b_eq rfl (by decide) c2
    refine lv_aload_n hx hb dX12_isWord_7 rfl (lv_at hl 0 rfl) ?_
    refine va_get (D := D) (ci := 12) (v := .ref (ad 4)) (C := RX12) (T := TX12) (N := 100) hx hb hg inX12 hown hK hP 0 rfl rfl 4 (by decide) (hg _ w1710) (fun _ h9 => h9) rfl dX12_isWord_8 ?_
    refine lv_aload_n hx hb dX12_isWord_11 rfl (lv_at hl 0 rfl) ?_
    refine va_get (D := D) (ci := 12) (v := .int (V 0 7)) (C := RX12) (T := TX12) (N := 100) hx hb hg inX12 hown hK hP 0 rfl rfl 7 (by decide) (hg _ w1713) (fun _ h9 => h9) rfl dX12_isWord_12 ?_
    refine va_iald (D := D) (i := (V 0 7)) hx hb hK hP 2 1 rfl rfl (i_in (a := ((V 0 7)).toInt) rfl (by first | omega | ((try (have i_x3 := Imp.go x3 (by omega))); omega))) dX12_isWord_15 ?_
    have t5 := tok_ne (V := V) (x := (V 0 7)) (n := n) x1 (by first | omega | ((try (have i_x3 := Imp.go x3 (by omega))); omega))
    refine lv_iconst (v := 1) hx hb dX12_isWord_16 (by decide) ?_
    refine lv_icmp_ne (tgt := 43) hx hb dX12_isWord_17 (by decide) (fun c6 => ?_) (fun c6 => ?_)
    · skip
      have f7 : ((V 4 (Int32.toNatClampNeg (V 0 7)))).toInt ≠ 1 := b_neq rfl (by decide) c6
      refine lv_iconst (v := 0) hx hb dX12_isWord_43 (by decide) ?_
      exact W.zret (v := 0) hx hb hr rfl (fun t ht hW => ⟨⟨0, (), rfl, ⟨(by decide), (Imp.mk (fun hp => absurd hp (by decide))), (Imp.mk (fun hp => absurd hp (by decide)))⟩, by rw [ht]; exact hP, va_K.moved hW.alike hK, hD⟩, hS.F ht⟩) hS.2.2 dX12_isWord_44
    · skip
      have f8 : ((V 4 (Int32.toNatClampNeg (V 0 7)))).toInt = 1 := b_eq rfl (by decide) c6
      refine lv_aload_n hx hb dX12_isWord_20 rfl (lv_at hl 0 rfl) ?_
      refine va_get (D := D) (ci := 12) (v := .ref (ad 6)) (C := RX12) (T := TX12) (N := 100) hx hb hg inX12 hown hK hP 0 rfl rfl 6 (by decide) (hg _ w1712) (fun _ h9 => h9) rfl dX12_isWord_21 ?_
      refine lv_aload_n hx hb dX12_isWord_24 rfl (lv_at hl 0 rfl) ?_
      refine va_get (D := D) (ci := 12) (v := .int (V 0 7)) (C := RX12) (T := TX12) (N := 100) hx hb hg inX12 hown hK hP 0 rfl rfl 7 (by decide) (hg _ w1713) (fun _ h9 => h9) rfl dX12_isWord_25 ?_
      refine va_lald (D := D) (i := (V 0 7)) hx hb hK hP 4 3 rfl rfl (i_in (a := ((V 0 7)).toInt) rfl (by first | omega | ((try (have i_t5 := Imp.go t5 (by omega))); (try (have i_x3 := Imp.go x3 (by omega))); (try (have i_x3 := Imp.go x3 (by omega))); (try (have i_t5 := Imp.go t5 (by omega))); omega))) dX12_isWord_28 ?_
      refine lv_aload_n hx hb dX12_isWord_29 rfl (lv_at hl 0 rfl) ?_
      refine va_get (D := D) (ci := 12) (v := .ref (ad 10)) (C := RX12) (T := TX12) (N := 100) hx hb hg inX12 hown hK hP 0 rfl rfl 10 (by decide) (hg _ w1716) (fun _ h9 => h9) rfl dX12_isWord_30 ?_
      refine lv_iload_n hx hb dX12_isWord_33 rfl (lv_at hl 1 rfl) ?_
      refine va_lald (D := D) (i := p0) hx hb hK hP 5 4 rfl rfl (i_in (a := p0.toInt) rfl (by first | omega | ((try (have i_t5 := Imp.go t5 (by omega))); (try (have i_x3 := Imp.go x3 (by omega))); (try (have i_x3 := Imp.go x3 (by omega))); (try (have i_t5 := Imp.go t5 (by omega))); omega))) dX12_isWord_34 ?_
      refine W.lcmp hx hb dX12_isWord_35 ?_
      refine lv_topi (fun z9 ez9 => ?_)
      have hz9 := lcmp_f ez9
      refine lv_if_ne (tgt := 43) hx hb dX12_isWord_36 (by decide) (fun c10 => ?_) (fun c10 => ?_)
      · skip
        have f11 : z9.toInt ≠ 0 := b_neq rfl (by decide) c10
        refine lv_iconst (v := 0) hx hb dX12_isWord_43 (by decide) ?_
        exact W.zret (v := 0) hx hb hr rfl (fun t ht hW => ⟨⟨0, (), rfl, ⟨(by decide), (Imp.mk (fun hp => absurd hp (by decide))), (Imp.mk (fun hp => absurd hp (by decide)))⟩, by rw [ht]; exact hP, va_K.moved hW.alike hK, hD⟩, hS.F ht⟩) hS.2.2 dX12_isWord_44
      · skip
        have f12 : z9.toInt = 0 := b_eq rfl (by decide) c10
        refine lv_iconst (v := 1) hx hb dX12_isWord_39 (by decide) ?_
        refine lv_goto (tgt := 44) hx hb dX12_isWord_40 (by decide) ?_
        exact W.zret (v := 1) hx hb hr rfl (fun t ht hW => ⟨⟨1, (), rfl, ⟨(by decide), (Imp.mk (fun _ => (show (V 0 8).toInt = 0 ∧ 0 ≤ (V 0 7).toInt ∧ (V 0 7).toInt < n from by first | omega | ((try (have i_t5 := Imp.go t5 (by omega))); (try (have i_x3 := Imp.go x3 (by omega))); (try (have i_x3 := Imp.go x3 (by omega))); (try (have i_t5 := Imp.go t5 (by omega))); omega)))), (Imp.mk (fun _ => ⟨(by first | omega | ((try (have i_t5 := Imp.go t5 (by omega))); (try (have i_x3 := Imp.go x3 (by omega))); (try (have i_x3 := Imp.go x3 (by omega))); (try (have i_t5 := Imp.go t5 (by omega))); omega)), Int64.toInt_inj.mp (by first | omega | ((try (have i_t5 := Imp.go t5 (by omega))); (try (have i_x3 := Imp.go x3 (by omega))); (try (have i_x3 := Imp.go x3 (by omega))); (try (have i_t5 := Imp.go t5 (by omega))); omega))⟩))⟩, by rw [ht]; exact hP, va_K.moved hW.alike hK, hD⟩, hS.F ht⟩) hS.2.2 dX12_isWord_44
abbrev r_s_hasSign3 : Room := { frames := 1, cells := 0, slots := 0, locals := 21 }
abbrev q_s_hasSign3 (D : va_G) (ks : KS) (ad : Nat → Nat) (kk : Nat → ClassId) (V : Vf) (L : Lf) (p0 : Int32) (n : Nat) (A : Nat → Prop) : Array Value → State → Outcome → State → Prop := va_Qi (fun (r : Int32) (u : Vf × Lf) => rgd bM u.1 ∧ agr [(0, 7)] [] V u.1 ∧ u.2 = L ∧ (0 ≤ r.toInt ∧ r.toInt ≤ 1) ∧ (Imp ((u.1 0 8).toInt = 0) (0 ≤ (u.1 0 7).toInt ∧ (u.1 0 7).toInt ≤ n ∧ (V 0 8).toInt = 0 ∧ (V 0 7).toInt ≤ (u.1 0 7).toInt)) ∧ (Imp (r.toInt = 1) ((u.1 0 8).toInt = 0 ∧ (V 0 7).toInt + 1 ≤ (u.1 0 7).toInt)) ∧ (Imp (r.toInt = 0) ((u.1 0 7).toInt = (V 0 7).toInt))) (fun u t => gq D A (mw ad kk ks.1 u.1 u.2) (mty kk) t) A
set_option maxHeartbeats 4000000 in
set_option maxRecDepth 100000 in
theorem s_hasSign3 (l : Launch) (D : va_G) (ks : KS) (sz : Nat) (ad : Nat → Nat) (kk : Nat → ClassId) (V : Vf) (L : Lf) (p0 : Int32) (n : Nat) (hMV : rgd bM V) (x1 : (V 4 n).toInt = 0) (x2 : n ≤ 4000) (x3 : Imp ((V 0 8).toInt = 0) (0 ≤ (V 0 7).toInt ∧ (V 0 7).toInt ≤ n))  : Met l yX12_hasSign (Cond.code yX12_hasSign cX12_hasSign 3 (some .boolean) :: GW) r_s_hasSign3 (va_Pc [.ref (ad 0), .int p0] (gp D ks (mw ad kk ks.1 V L) (mty kk) sz)) (q_s_hasSign3 D ks ad kk V L p0 n (va_A (mw ad kk ks.1 V L) sz)) 0 0 (va_A (mw ad kk ks.1 V L) sz) := by
  refine g_met (q_s_hasSign3 D ks ad kk V L p0 n) (by decide) (Nat.le_of_ble_eq_true rfl) ?_
  intro p e s m below meth c A ls H locs hx hb hr hml hown hg hlocks hin hnw hgk hP hK hD hS hA hl
  have hown : s.vm.findClass RX12 = some m.cls := hown
  have hl : lv_has ls 3 [(0, .ref (ad 0)), (1, .int p0)] := hl
  have hP : va_P D vwCl (mw ad kk ks.1 V L) H := hP
  have hD : va_D A (mw ad kk ks.1 V L) := hD
  have hK : va_K D vwCl (mty kk) s := hK
  have agV : agr [(0, 7)] [] V V := agr.rf
  have r1 : 0 ≤ ((V 0 8)).toInt ∧ ((V 0 8)).toInt ≤ 70000 := hMV 0 8
  refine lv_aload_n hx hb dX12_hasSign_0 rfl (lv_at hl 0 rfl) ?_
  refine lv_iload_n hx hb dX12_hasSign_1 rfl (lv_at hl 1 rfl) ?_
  refine gA_int (gA_runV (As := [.int p0]) (rest := []) (ci := 12) (q0 := 0) hx hb hml hown hg hP hD hK hS hA hnw hgk (s_isSign3 l D ks H.size ad kk V L p0 (n) hMV (show (V 4 (n)).toInt = 0 from by first | omega | ((try (have i_x3 := Imp.go x3 (by omega))); omega)) (show (n) ≤ 4000 from by first | omega | ((try (have i_x3 := Imp.go x3 (by omega))); omega)) (Imp.mk (fun hp => have hp : (V 0 8).toInt = 0 := hp; (show 0 ≤ (V 0 7).toInt ∧ (V 0 7).toInt ≤ (n) from by first | omega | ((try (have i_x3 := Imp.go x3 (by omega))); omega))))) w2071 w2073 w95 w172 w2074 rfl rfl hdV_yX12_isSign ⟨Nat.le_of_ble_eq_true rfl, Nat.le_of_ble_eq_true rfl⟩ rfl hl.1 rfl (Nat.le_of_ble_eq_true rfl) dX12_hasSign_2 ⟨Nat.le_of_ble_eq_true rfl, Nat.le_of_ble_eq_true rfl⟩) hP hD hK hS hA (fun z2 u3 H locs w4 hP hD hK hS => ?_)
  obtain ⟨rgz2, t5, t6⟩ := w4
  have rgz2 : 0 ≤ z2.toInt ∧ z2.toInt ≤ 1 := rgz2
  have t5 : Imp (z2.toInt = 1) ((V 0 8).toInt = 0 ∧ 0 ≤ (V 0 7).toInt ∧ (V 0 7).toInt < (n)) := t5
  have t6 : Imp (z2.toInt = 1) ((V 4 (Int32.toNatClampNeg (V 0 7))).toInt = 3) := t6
  refine lv_istore_n (lv' := [(2, .int z2), (0, .ref (ad 0)), (1, .int p0)]) hx hb dX12_hasSign_5 rfl hl (by decide) rfl (fun ls hl => ?_)
  refine lv_aload_n hx hb dX12_hasSign_6 rfl (lv_at hl 1 rfl) ?_
  refine lv_dup hx hb dX12_hasSign_7 rfl ?_
  refine va_get (D := D) (ci := 12) (v := .int (V 0 7)) (C := RX12) (T := TX12) (N := 100) hx hb hg inX12 hown hK hP 0 rfl rfl 7 (by decide) (hg _ w1713) (fun _ h9 => h9) rfl dX12_hasSign_8 ?_
  refine lv_iload_n hx hb dX12_hasSign_11 rfl (lv_at hl 0 rfl) ?_
  refine lv_if_eq (tgt := 19) hx hb dX12_hasSign_12 (by decide) (fun c7 => ?_) (fun c7 => ?_)
  · skip
    have f8 : z2.toInt = 0 := b_eq rfl (by decide) c7
    refine lv_iconst (v := 0) hx hb dX12_hasSign_19 (by decide) ?_
    refine lv_iadd hx hb dX12_hasSign_20 ?_
    have r9 := i_full (V 0 7)
    refine lv_topi (fun z10 ez10 => ?_)
    have hz10 : z10.toInt = ((V 0 7)).toInt + 0 := i_add ez10 rfl (by decide) (by omega)
    refine va_put (D := D) (ci := 12) (v := .int z10) (ty := tyX12 7) (C := RX12) (T := TX12) (N := 100) hx hb hg inX12 tyX12 tyX12_ok nmX12 hown hK hP hD hS 0 rfl rfl 7 (by decide) (hg _ w1713) (fun _ h9 => h9) rfl (tyX12_ok 7 (by decide)) rfl rfl (Nat.le_of_ble_eq_true rfl) dX12_hasSign_21 (fun H locs hP hD hS => ?_)
    obtain ⟨V11, hV11⟩ : ∃ z, z = up2 V 0 7 z10 := ⟨_, rfl⟩
    have hP : va_P D vwCl (mw ad kk ks.1 V11 L) H := by rw [hV11]; exact hP
    have hD : va_D A (mw ad kk ks.1 V11 L) := by rw [hV11]; exact hD
    have hMV11 : rgd bM V11 := hMV.put hV11 (i_full _)
    have agV11 : agr [(0, 7)] [] V V11 := agV.up hV11 rfl
    refine lv_iload_n hx hb dX12_hasSign_24 rfl (lv_at hl 0 rfl) ?_
    have pq12 : (V11 0 7).toInt = z10.toInt := congrArg Int32.toInt (up2_s hV11)
    have pq13 : (V11 0 8).toInt = ((V 0 8)).toInt := congrArg Int32.toInt (up2_k hV11 (by decide))
    exact W.zret (v := z2) hx hb hr (nb_ok (by omega)) (fun t ht hW => ⟨⟨z2, (V11, L), rfl, ⟨hMV11, agV11, rfl, (show 0 ≤ z2.toInt ∧ z2.toInt ≤ 1 from by first | omega | ((try (have i_t6 := Imp.go t6 (by omega))); (try (have i_t5 := Imp.go t5 (by omega))); (try (have i_x3 := Imp.go x3 (by omega))); (try (have i_x3 := Imp.go x3 (by omega))); (try (have i_t5 := Imp.go t5 (by omega))); (try (have i_t6 := Imp.go t6 (by omega))); omega)), (Imp.mk (fun hp => have hp : (V11 0 8).toInt = 0 := hp; (show 0 ≤ (V11 0 7).toInt ∧ (V11 0 7).toInt ≤ n ∧ (V 0 8).toInt = 0 ∧ (V 0 7).toInt ≤ (V11 0 7).toInt from by first | omega | ((try (have i_t6 := Imp.go t6 (by omega))); (try (have i_t5 := Imp.go t5 (by omega))); (try (have i_x3 := Imp.go x3 (by omega))); (try (have i_x3 := Imp.go x3 (by omega))); (try (have i_t5 := Imp.go t5 (by omega))); (try (have i_t6 := Imp.go t6 (by omega))); omega)))), (Imp.mk (fun hp => have hp : z2.toInt = 1 := hp; (show (V11 0 8).toInt = 0 ∧ (V 0 7).toInt + 1 ≤ (V11 0 7).toInt from by first | omega | ((try (have i_t6 := Imp.go t6 (by omega))); (try (have i_t5 := Imp.go t5 (by omega))); (try (have i_x3 := Imp.go x3 (by omega))); (try (have i_x3 := Imp.go x3 (by omega))); (try (have i_t5 := Imp.go t5 (by omega))); (try (have i_t6 := Imp.go t6 (by omega))); omega)))), (Imp.mk (fun hp => have hp : z2.toInt = 0 := hp; (show (V11 0 7).toInt = (V 0 7).toInt from by first | omega | ((try (have i_t6 := Imp.go t6 (by omega))); (try (have i_t5 := Imp.go t5 (by omega))); (try (have i_x3 := Imp.go x3 (by omega))); (try (have i_x3 := Imp.go x3 (by omega))); (try (have i_t5 := Imp.go t5 (by omega))); (try (have i_t6 := Imp.go t6 (by omega))); omega))))⟩, by rw [ht]; exact hP, va_K.moved hW.alike hK, hD⟩, hS.F ht⟩) hS.2.2 dX12_hasSign_25
  · skip
    have f14 : z2.toInt ≠ 0 := b_neq rfl (by decide) c7
    refine lv_iconst (v := 1) hx hb dX12_hasSign_15 (by decide) ?_
    refine lv_goto (tgt := 20) hx hb dX12_hasSign_16 (by decide) ?_
    refine lv_iadd hx hb dX12_hasSign_20 ?_
    have r15 := i_full (V 0 7)
    refine lv_topi (fun z16 ez16 => ?_)
    have hz16 : Imp (-2147483648 ≤ ((V 0 7)).toInt + 1 ∧ ((V 0 7)).toInt + 1 ≤ 2147483647) (z16.toInt = ((V 0 7)).toInt + 1) := Imp.mk (fun hp => i_add ez16 rfl (by decide) hp)
    refine va_put (D := D) (ci := 12) (v := .int z16) (ty := tyX12 7) (C := RX12) (T := TX12) (N := 100) hx hb hg inX12 tyX12 tyX12_ok nmX12 hown hK hP hD hS 0 rfl rfl 7 (by decide) (hg _ w1713) (fun _ h9 => h9) rfl (tyX12_ok 7 (by decide)) rfl rfl (Nat.le_of_ble_eq_true rfl) dX12_hasSign_21 (fun H locs hP hD hS => ?_)
    obtain ⟨V17, hV17⟩ : ∃ z, z = up2 V 0 7 z16 := ⟨_, rfl⟩
    have hP : va_P D vwCl (mw ad kk ks.1 V17 L) H := by rw [hV17]; exact hP
    have hD : va_D A (mw ad kk ks.1 V17 L) := by rw [hV17]; exact hD
    have hMV17 : rgd bM V17 := hMV.put hV17 (i_full _)
    have agV17 : agr [(0, 7)] [] V V17 := agV.up hV17 rfl
    refine lv_iload_n hx hb dX12_hasSign_24 rfl (lv_at hl 0 rfl) ?_
    have pq18 : (V17 0 7).toInt = z16.toInt := congrArg Int32.toInt (up2_s hV17)
    have pq19 : (V17 0 8).toInt = ((V 0 8)).toInt := congrArg Int32.toInt (up2_k hV17 (by decide))
    exact W.zret (v := z2) hx hb hr (nb_ok (by omega)) (fun t ht hW => ⟨⟨z2, (V17, L), rfl, ⟨hMV17, agV17, rfl, (show 0 ≤ z2.toInt ∧ z2.toInt ≤ 1 from by first | omega | ((try (have i_hz16 := Imp.go hz16 (by omega))); (try (have i_t6 := Imp.go t6 (by omega))); (try (have i_t5 := Imp.go t5 (by omega))); (try (have i_x3 := Imp.go x3 (by omega))); first | omega | ((try (have i_x3 := Imp.go x3 (by omega))); (try (have i_t5 := Imp.go t5 (by omega))); (try (have i_t6 := Imp.go t6 (by omega))); (try (have i_hz16 := Imp.go hz16 (by omega))); omega))), (Imp.mk (fun hp => have hp : (V17 0 8).toInt = 0 := hp; (show 0 ≤ (V17 0 7).toInt ∧ (V17 0 7).toInt ≤ n ∧ (V 0 8).toInt = 0 ∧ (V 0 7).toInt ≤ (V17 0 7).toInt from by first | omega | ((try (have i_hz16 := Imp.go hz16 (by omega))); (try (have i_t6 := Imp.go t6 (by omega))); (try (have i_t5 := Imp.go t5 (by omega))); (try (have i_x3 := Imp.go x3 (by omega))); first | omega | ((try (have i_x3 := Imp.go x3 (by omega))); (try (have i_t5 := Imp.go t5 (by omega))); (try (have i_t6 := Imp.go t6 (by omega))); (try (have i_hz16 := Imp.go hz16 (by omega))); omega))))), (Imp.mk (fun hp => have hp : z2.toInt = 1 := hp; (show (V17 0 8).toInt = 0 ∧ (V 0 7).toInt + 1 ≤ (V17 0 7).toInt from by first | omega | ((try (have i_hz16 := Imp.go hz16 (by omega))); (try (have i_t6 := Imp.go t6 (by omega))); (try (have i_t5 := Imp.go t5 (by omega))); (try (have i_x3 := Imp.go x3 (by omega))); first | omega | ((try (have i_x3 := Imp.go x3 (by omega))); (try (have i_t5 := Imp.go t5 (by omega))); (try (have i_t6 := Imp.go t6 (by omega))); (try (have i_hz16 := Imp.go hz16 (by omega))); omega))))), (Imp.mk (fun hp => have hp : z2.toInt = 0 := hp; (show (V17 0 7).toInt = (V 0 7).toInt from by first | omega | ((try (have i_hz16 := Imp.go hz16 (by omega))); (try (have i_t6 := Imp.go t6 (by omega))); (try (have i_t5 := Imp.go t5 (by omega))); (try (have i_x3 := Imp.go x3 (by omega))); first | omega | ((try (have i_x3 := Imp.go x3 (by omega))); (try (have i_t5 := Imp.go t5 (by omega))); (try (have i_t6 := Imp.go t6 (by omega))); (try (have i_hz16 := Imp.go hz16 (by omega))); omega)))))⟩, by rw [ht]; exact hP, va_K.moved hW.alike hK, hD⟩, hS.F ht⟩) hS.2.2 dX12_hasSign_25
abbrev r_s_hasWord3 : Room := { frames := 1, cells := 0, slots := 0, locals := 21 }
abbrev q_s_hasWord3 (D : va_G) (ks : KS) (ad : Nat → Nat) (kk : Nat → ClassId) (V : Vf) (L : Lf) (p0 : Int32) (n : Nat) (A : Nat → Prop) : Array Value → State → Outcome → State → Prop := va_Qi (fun (r : Int32) (u : Vf × Lf) => rgd bM u.1 ∧ agr [(0, 7)] [] V u.1 ∧ u.2 = L ∧ (0 ≤ r.toInt ∧ r.toInt ≤ 1) ∧ (Imp ((u.1 0 8).toInt = 0) (0 ≤ (u.1 0 7).toInt ∧ (u.1 0 7).toInt ≤ n ∧ (V 0 8).toInt = 0 ∧ (V 0 7).toInt ≤ (u.1 0 7).toInt)) ∧ (Imp (r.toInt = 1) ((u.1 0 8).toInt = 0 ∧ (V 0 7).toInt + 1 ≤ (u.1 0 7).toInt)) ∧ (Imp (r.toInt = 0) ((u.1 0 7).toInt = (V 0 7).toInt)) ∧ (Imp (r.toInt = 1) (atW V L (Int32.toNatClampNeg p0)))) (fun u t => gq D A (mw ad kk ks.1 u.1 u.2) (mty kk) t) A
set_option maxHeartbeats 4000000 in
set_option maxRecDepth 100000 in
theorem s_hasWord3 (l : Launch) (D : va_G) (ks : KS) (sz : Nat) (ad : Nat → Nat) (kk : Nat → ClassId) (V : Vf) (L : Lf) (p0 : Int32) (n : Nat) (hMV : rgd bM V) (rg_p0 : 0 ≤ p0.toInt ∧ p0.toInt ≤ 29) (x1 : (V 4 n).toInt = 0) (x2 : n ≤ 4000) (x3 : Imp ((V 0 8).toInt = 0) (0 ≤ (V 0 7).toInt ∧ (V 0 7).toInt ≤ n))  : Met l yX12_hasWord (Cond.code yX12_hasWord cX12_hasWord 3 (some .boolean) :: GW) r_s_hasWord3 (va_Pc [.ref (ad 0), .int p0] (gp D ks (mw ad kk ks.1 V L) (mty kk) sz)) (q_s_hasWord3 D ks ad kk V L p0 n (va_A (mw ad kk ks.1 V L) sz)) 0 0 (va_A (mw ad kk ks.1 V L) sz) := by
  refine g_met (q_s_hasWord3 D ks ad kk V L p0 n) (by decide) (Nat.le_of_ble_eq_true rfl) ?_
  intro p e s m below meth c A ls H locs hx hb hr hml hown hg hlocks hin hnw hgk hP hK hD hS hA hl
  have hown : s.vm.findClass RX12 = some m.cls := hown
  have hl : lv_has ls 3 [(0, .ref (ad 0)), (1, .int p0)] := hl
  have hP : va_P D vwCl (mw ad kk ks.1 V L) H := hP
  have hD : va_D A (mw ad kk ks.1 V L) := hD
  have hK : va_K D vwCl (mty kk) s := hK
  have agV : agr [(0, 7)] [] V V := agr.rf
  have r1 : 0 ≤ ((V 0 8)).toInt ∧ ((V 0 8)).toInt ≤ 70000 := hMV 0 8
  refine lv_aload_n hx hb dX12_hasWord_0 rfl (lv_at hl 0 rfl) ?_
  refine lv_iload_n hx hb dX12_hasWord_1 rfl (lv_at hl 1 rfl) ?_
  refine gA_int (gA_runV (As := [.int p0]) (rest := []) (ci := 12) (q0 := 0) hx hb hml hown hg hP hD hK hS hA hnw hgk (s_isWord3 l D ks H.size ad kk V L p0 (n) hMV (by first | omega | ((try (have i_x3 := Imp.go x3 (by omega))); omega)) (show (V 4 (n)).toInt = 0 from by first | omega | ((try (have i_x3 := Imp.go x3 (by omega))); omega)) (show (n) ≤ 4000 from by first | omega | ((try (have i_x3 := Imp.go x3 (by omega))); omega)) (Imp.mk (fun hp => have hp : (V 0 8).toInt = 0 := hp; (show 0 ≤ (V 0 7).toInt ∧ (V 0 7).toInt ≤ (n) from by first | omega | ((try (have i_x3 := Imp.go x3 (by omega))); omega))))) w2023 w2025 w83 w172 w2026 rfl rfl hdV_yX12_isWord ⟨Nat.le_of_ble_eq_true rfl, Nat.le_of_ble_eq_true rfl⟩ rfl hl.1 rfl (Nat.le_of_ble_eq_true rfl) dX12_hasWord_2 ⟨Nat.le_of_ble_eq_true rfl, Nat.le_of_ble_eq_true rfl⟩) hP hD hK hS hA (fun z2 u3 H locs w4 hP hD hK hS => ?_)
  obtain ⟨rgz2, t5, t6⟩ := w4
  have rgz2 : 0 ≤ z2.toInt ∧ z2.toInt ≤ 1 := rgz2
  have t5 : Imp (z2.toInt = 1) ((V 0 8).toInt = 0 ∧ 0 ≤ (V 0 7).toInt ∧ (V 0 7).toInt < (n)) := t5
  have t6 : Imp (z2.toInt = 1) (atW V L (Int32.toNatClampNeg p0)) := t6
  refine lv_istore_n (lv' := [(2, .int z2), (0, .ref (ad 0)), (1, .int p0)]) hx hb dX12_hasWord_5 rfl hl (by decide) rfl (fun ls hl => ?_)
  refine lv_aload_n hx hb dX12_hasWord_6 rfl (lv_at hl 1 rfl) ?_
  refine lv_dup hx hb dX12_hasWord_7 rfl ?_
  refine va_get (D := D) (ci := 12) (v := .int (V 0 7)) (C := RX12) (T := TX12) (N := 100) hx hb hg inX12 hown hK hP 0 rfl rfl 7 (by decide) (hg _ w1713) (fun _ h9 => h9) rfl dX12_hasWord_8 ?_
  refine lv_iload_n hx hb dX12_hasWord_11 rfl (lv_at hl 0 rfl) ?_
  refine lv_if_eq (tgt := 19) hx hb dX12_hasWord_12 (by decide) (fun c7 => ?_) (fun c7 => ?_)
  · skip
    have f8 : z2.toInt = 0 := b_eq rfl (by decide) c7
    refine lv_iconst (v := 0) hx hb dX12_hasWord_19 (by decide) ?_
    refine lv_iadd hx hb dX12_hasWord_20 ?_
    have r9 := i_full (V 0 7)
    refine lv_topi (fun z10 ez10 => ?_)
    have hz10 : z10.toInt = ((V 0 7)).toInt + 0 := i_add ez10 rfl (by decide) (by omega)
    refine va_put (D := D) (ci := 12) (v := .int z10) (ty := tyX12 7) (C := RX12) (T := TX12) (N := 100) hx hb hg inX12 tyX12 tyX12_ok nmX12 hown hK hP hD hS 0 rfl rfl 7 (by decide) (hg _ w1713) (fun _ h9 => h9) rfl (tyX12_ok 7 (by decide)) rfl rfl (Nat.le_of_ble_eq_true rfl) dX12_hasWord_21 (fun H locs hP hD hS => ?_)
    obtain ⟨V11, hV11⟩ : ∃ z, z = up2 V 0 7 z10 := ⟨_, rfl⟩
    have hP : va_P D vwCl (mw ad kk ks.1 V11 L) H := by rw [hV11]; exact hP
    have hD : va_D A (mw ad kk ks.1 V11 L) := by rw [hV11]; exact hD
    have hMV11 : rgd bM V11 := hMV.put hV11 (i_full _)
    have agV11 : agr [(0, 7)] [] V V11 := agV.up hV11 rfl
    refine lv_iload_n hx hb dX12_hasWord_24 rfl (lv_at hl 0 rfl) ?_
    have pq12 : (V11 0 7).toInt = z10.toInt := congrArg Int32.toInt (up2_s hV11)
    have pq13 : (V11 0 8).toInt = ((V 0 8)).toInt := congrArg Int32.toInt (up2_k hV11 (by decide))
    exact W.zret (v := z2) hx hb hr (nb_ok (by omega)) (fun t ht hW => ⟨⟨z2, (V11, L), rfl, ⟨hMV11, agV11, rfl, (show 0 ≤ z2.toInt ∧ z2.toInt ≤ 1 from by first | omega | ((try (have i_t5 := Imp.go t5 (by omega))); (try (have i_x3 := Imp.go x3 (by omega))); (try (have i_x3 := Imp.go x3 (by omega))); (try (have i_t5 := Imp.go t5 (by omega))); omega)), (Imp.mk (fun hp => have hp : (V11 0 8).toInt = 0 := hp; (show 0 ≤ (V11 0 7).toInt ∧ (V11 0 7).toInt ≤ n ∧ (V 0 8).toInt = 0 ∧ (V 0 7).toInt ≤ (V11 0 7).toInt from by first | omega | ((try (have i_t5 := Imp.go t5 (by omega))); (try (have i_x3 := Imp.go x3 (by omega))); (try (have i_x3 := Imp.go x3 (by omega))); (try (have i_t5 := Imp.go t5 (by omega))); omega)))), (Imp.mk (fun hp => have hp : z2.toInt = 1 := hp; (show (V11 0 8).toInt = 0 ∧ (V 0 7).toInt + 1 ≤ (V11 0 7).toInt from by first | omega | ((try (have i_t5 := Imp.go t5 (by omega))); (try (have i_x3 := Imp.go x3 (by omega))); (try (have i_x3 := Imp.go x3 (by omega))); (try (have i_t5 := Imp.go t5 (by omega))); omega)))), (Imp.mk (fun hp => have hp : z2.toInt = 0 := hp; (show (V11 0 7).toInt = (V 0 7).toInt from by first | omega | ((try (have i_t5 := Imp.go t5 (by omega))); (try (have i_x3 := Imp.go x3 (by omega))); (try (have i_x3 := Imp.go x3 (by omega))); (try (have i_t5 := Imp.go t5 (by omega))); omega)))), t6⟩, by rw [ht]; exact hP, va_K.moved hW.alike hK, hD⟩, hS.F ht⟩) hS.2.2 dX12_hasWord_25
  · skip
    have f14 : z2.toInt ≠ 0 := b_neq rfl (by decide) c7
    refine lv_iconst (v := 1) hx hb dX12_hasWord_15 (by decide) ?_
    refine lv_goto (tgt := 20) hx hb dX12_hasWord_16 (by decide) ?_
    refine lv_iadd hx hb dX12_hasWord_20 ?_
    have r15 := i_full (V 0 7)
    refine lv_topi (fun z16 ez16 => ?_)
    have hz16 : Imp (-2147483648 ≤ ((V 0 7)).toInt + 1 ∧ ((V 0 7)).toInt + 1 ≤ 2147483647) (z16.toInt = ((V 0 7)).toInt + 1) := Imp.mk (fun hp => i_add ez16 rfl (by decide) hp)
    refine va_put (D := D) (ci := 12) (v := .int z16) (ty := tyX12 7) (C := RX12) (T := TX12) (N := 100) hx hb hg inX12 tyX12 tyX12_ok nmX12 hown hK hP hD hS 0 rfl rfl 7 (by decide) (hg _ w1713) (fun _ h9 => h9) rfl (tyX12_ok 7 (by decide)) rfl rfl (Nat.le_of_ble_eq_true rfl) dX12_hasWord_21 (fun H locs hP hD hS => ?_)
    obtain ⟨V17, hV17⟩ : ∃ z, z = up2 V 0 7 z16 := ⟨_, rfl⟩
    have hP : va_P D vwCl (mw ad kk ks.1 V17 L) H := by rw [hV17]; exact hP
    have hD : va_D A (mw ad kk ks.1 V17 L) := by rw [hV17]; exact hD
    have hMV17 : rgd bM V17 := hMV.put hV17 (i_full _)
    have agV17 : agr [(0, 7)] [] V V17 := agV.up hV17 rfl
    refine lv_iload_n hx hb dX12_hasWord_24 rfl (lv_at hl 0 rfl) ?_
    have pq18 : (V17 0 7).toInt = z16.toInt := congrArg Int32.toInt (up2_s hV17)
    have pq19 : (V17 0 8).toInt = ((V 0 8)).toInt := congrArg Int32.toInt (up2_k hV17 (by decide))
    exact W.zret (v := z2) hx hb hr (nb_ok (by omega)) (fun t ht hW => ⟨⟨z2, (V17, L), rfl, ⟨hMV17, agV17, rfl, (show 0 ≤ z2.toInt ∧ z2.toInt ≤ 1 from by first | omega | ((try (have i_hz16 := Imp.go hz16 (by omega))); (try (have i_t5 := Imp.go t5 (by omega))); (try (have i_x3 := Imp.go x3 (by omega))); (try (have i_x3 := Imp.go x3 (by omega))); (try (have i_t5 := Imp.go t5 (by omega))); (try (have i_hz16 := Imp.go hz16 (by omega))); omega)), (Imp.mk (fun hp => have hp : (V17 0 8).toInt = 0 := hp; (show 0 ≤ (V17 0 7).toInt ∧ (V17 0 7).toInt ≤ n ∧ (V 0 8).toInt = 0 ∧ (V 0 7).toInt ≤ (V17 0 7).toInt from by first | omega | ((try (have i_hz16 := Imp.go hz16 (by omega))); (try (have i_t5 := Imp.go t5 (by omega))); (try (have i_x3 := Imp.go x3 (by omega))); (try (have i_x3 := Imp.go x3 (by omega))); (try (have i_t5 := Imp.go t5 (by omega))); (try (have i_hz16 := Imp.go hz16 (by omega))); omega)))), (Imp.mk (fun hp => have hp : z2.toInt = 1 := hp; (show (V17 0 8).toInt = 0 ∧ (V 0 7).toInt + 1 ≤ (V17 0 7).toInt from by first | omega | ((try (have i_hz16 := Imp.go hz16 (by omega))); (try (have i_t5 := Imp.go t5 (by omega))); (try (have i_x3 := Imp.go x3 (by omega))); (try (have i_x3 := Imp.go x3 (by omega))); (try (have i_t5 := Imp.go t5 (by omega))); (try (have i_hz16 := Imp.go hz16 (by omega))); omega)))), (Imp.mk (fun hp => have hp : z2.toInt = 0 := hp; (show (V17 0 7).toInt = (V 0 7).toInt from by first | omega | ((try (have i_hz16 := Imp.go hz16 (by omega))); (try (have i_t5 := Imp.go t5 (by omega))); (try (have i_x3 := Imp.go x3 (by omega))); (try (have i_x3 := Imp.go x3 (by omega))); (try (have i_t5 := Imp.go t5 (by omega))); (try (have i_hz16 := Imp.go hz16 (by omega))); omega)))), t6⟩, by rw [ht]; exact hP, va_K.moved hW.alike hK, hD⟩, hS.F ht⟩) hS.2.2 dX12_hasWord_25
abbrev r_s_takeSign2 : Room := { frames := 1, cells := 0, slots := 0, locals := 21 }
abbrev q_s_takeSign2 (D : va_G) (ks : KS) (ad : Nat → Nat) (kk : Nat → ClassId) (V : Vf) (L : Lf) (p0 : Int32) (n : Nat) (A : Nat → Prop) : Array Value → State → Outcome → State → Prop := va_Qv (fun (u : Vf × Lf) => rgd bM u.1 ∧ agr [(0, 7), (0, 8)] [] V u.1 ∧ u.2 = L ∧ (Imp ((u.1 0 8).toInt = 0) (0 ≤ (u.1 0 7).toInt ∧ (u.1 0 7).toInt ≤ n ∧ (V 0 8).toInt = 0 ∧ (V 0 7).toInt ≤ (u.1 0 7).toInt)) ∧ (Imp ((u.1 0 8).toInt = 0) ((V 0 7).toInt + 1 ≤ (u.1 0 7).toInt)) ∧ (Imp (1 ≤ (V 0 8).toInt) (1 ≤ (u.1 0 8).toInt))) (fun u t => gq D A (mw ad kk ks.1 u.1 u.2) (mty kk) t) A
set_option maxHeartbeats 4000000 in
set_option maxRecDepth 100000 in
theorem s_takeSign2 (l : Launch) (D : va_G) (ks : KS) (sz : Nat) (ad : Nat → Nat) (kk : Nat → ClassId) (V : Vf) (L : Lf) (p0 : Int32) (n : Nat) (hMV : rgd bM V) (x1 : (V 4 n).toInt = 0) (x2 : n ≤ 4000) (x3 : Imp ((V 0 8).toInt = 0) (0 ≤ (V 0 7).toInt ∧ (V 0 7).toInt ≤ n))  : Met l yX12_takeSign (Cond.code yX12_takeSign cX12_takeSign 2 none :: GW) r_s_takeSign2 (va_Pc [.ref (ad 0), .int p0] (gp D ks (mw ad kk ks.1 V L) (mty kk) sz)) (q_s_takeSign2 D ks ad kk V L p0 n (va_A (mw ad kk ks.1 V L) sz)) 0 0 (va_A (mw ad kk ks.1 V L) sz) := by
  refine g_met (q_s_takeSign2 D ks ad kk V L p0 n) (by decide) (Nat.le_of_ble_eq_true rfl) ?_
  intro p e s m below meth c A ls H locs hx hb hr hml hown hg hlocks hin hnw hgk hP hK hD hS hA hl
  have hown : s.vm.findClass RX12 = some m.cls := hown
  have hl : lv_has ls 2 [(0, .ref (ad 0)), (1, .int p0)] := hl
  have hP : va_P D vwCl (mw ad kk ks.1 V L) H := hP
  have hD : va_D A (mw ad kk ks.1 V L) := hD
  have hK : va_K D vwCl (mty kk) s := hK
  have agV : agr [(0, 7), (0, 8)] [] V V := agr.rf
  have r1 : 0 ≤ ((V 0 8)).toInt ∧ ((V 0 8)).toInt ≤ 70000 := hMV 0 8
  refine lv_aload_n hx hb dX12_takeSign_0 rfl (lv_at hl 0 rfl) ?_
  refine lv_iload_n hx hb dX12_takeSign_1 rfl (lv_at hl 1 rfl) ?_
  refine gA_int (gA_runV (As := [.int p0]) (rest := []) (ci := 12) (q0 := 0) hx hb hml hown hg hP hD hK hS hA hnw hgk (s_isSign3 l D ks H.size ad kk V L p0 (n) hMV (show (V 4 (n)).toInt = 0 from by first | omega | ((try (have i_x3 := Imp.go x3 (by omega))); omega)) (show (n) ≤ 4000 from by first | omega | ((try (have i_x3 := Imp.go x3 (by omega))); omega)) (Imp.mk (fun hp => have hp : (V 0 8).toInt = 0 := hp; (show 0 ≤ (V 0 7).toInt ∧ (V 0 7).toInt ≤ (n) from by first | omega | ((try (have i_x3 := Imp.go x3 (by omega))); omega))))) w2071 w2073 w95 w172 w2074 rfl rfl hdV_yX12_isSign ⟨Nat.le_of_ble_eq_true rfl, Nat.le_of_ble_eq_true rfl⟩ rfl hl.1 rfl (Nat.le_of_ble_eq_true rfl) dX12_takeSign_2 ⟨Nat.le_of_ble_eq_true rfl, Nat.le_of_ble_eq_true rfl⟩) hP hD hK hS hA (fun z2 u3 H locs w4 hP hD hK hS => ?_)
  obtain ⟨rgz2, t5, t6⟩ := w4
  have rgz2 : 0 ≤ z2.toInt ∧ z2.toInt ≤ 1 := rgz2
  have t5 : Imp (z2.toInt = 1) ((V 0 8).toInt = 0 ∧ 0 ≤ (V 0 7).toInt ∧ (V 0 7).toInt < (n)) := t5
  have t6 : Imp (z2.toInt = 1) ((V 4 (Int32.toNatClampNeg (V 0 7))).toInt = 3) := t6
  refine lv_if_eq (tgt := 21) hx hb dX12_takeSign_5 (by decide) (fun c7 => ?_) (fun c7 => ?_)
  · skip
    have f8 : z2.toInt = 0 := b_eq rfl (by decide) c7
    refine lv_aload_n hx hb dX12_takeSign_21 rfl (lv_at hl 0 rfl) ?_
    refine lv_iconst (v := 1) hx hb dX12_takeSign_22 (by decide) ?_
    have r9 : Int32.toInt 1 = 1 := by decide
    refine gA_void (gA_runV (As := [.int 1]) (rest := []) (ci := 12) (q0 := 0) hx hb hml hown hg hP hD hK hS hA hnw hgk (s_wrong l D ks H.size ad kk V L 1 (n) hMV (by decide) (show (V 4 (n)).toInt = 0 from by first | omega | ((try (have i_t6 := Imp.go t6 (by omega))); (try (have i_t5 := Imp.go t5 (by omega))); (try (have i_x3 := Imp.go x3 (by omega))); (try (have i_x3 := Imp.go x3 (by omega))); (try (have i_t5 := Imp.go t5 (by omega))); (try (have i_t6 := Imp.go t6 (by omega))); omega)) (show (n) ≤ 4000 from by first | omega | ((try (have i_t6 := Imp.go t6 (by omega))); (try (have i_t5 := Imp.go t5 (by omega))); (try (have i_x3 := Imp.go x3 (by omega))); (try (have i_x3 := Imp.go x3 (by omega))); (try (have i_t5 := Imp.go t5 (by omega))); (try (have i_t6 := Imp.go t6 (by omega))); omega)) (Imp.mk (fun hp => have hp : (V 0 8).toInt = 0 := hp; (show 0 ≤ (V 0 7).toInt ∧ (V 0 7).toInt ≤ (n) from by first | omega | ((try (have i_t6 := Imp.go t6 (by omega))); (try (have i_t5 := Imp.go t5 (by omega))); (try (have i_x3 := Imp.go x3 (by omega))); (try (have i_x3 := Imp.go x3 (by omega))); (try (have i_t5 := Imp.go t5 (by omega))); (try (have i_t6 := Imp.go t6 (by omega))); omega))))) w2035 w2037 w86 w172 w2038 rfl rfl hdV_yX12_wrong ⟨Nat.le_of_ble_eq_true rfl, Nat.le_of_ble_eq_true rfl⟩ rfl hl.1 rfl (Nat.le_of_ble_eq_true rfl) dX12_takeSign_23 ⟨Nat.le_of_ble_eq_true rfl, Nat.le_of_ble_eq_true rfl⟩) hP hD hK hS hA (fun u11 H locs w12 hP hD hK hS => ?_)
    obtain ⟨V14, L15⟩ := u11
    obtain ⟨hMV14, ajV14, axL15, t13⟩ := w12
    have axL15 : L = L15 := Eq.symm axL15
    subst axL15
    have hP : va_P D vwCl (mw ad kk ks.1 V14 L) H := hP
    have hD : va_D A (mw ad kk ks.1 V14 L) := hD
    have hMV14 : rgd bM V14 := hMV14
    have ajV14 : agr [(0, 8)] [] V V14 := ajV14
    have agV14 : agr [(0, 7), (0, 8)] [] V V14 := agV.tr ajV14 (by decide) (by decide)
    have t13 : 1 ≤ (V14 0 8).toInt := t13
    have r16 : 0 ≤ ((V14 0 8)).toInt ∧ ((V14 0 8)).toInt ≤ 70000 := hMV14 0 8
    have pq17 : (V14 0 7).toInt = ((V 0 7)).toInt := congrArg Int32.toInt (ajV14 0 7 rfl)
    exact W.vret hx hb hr (fun t ht hW => ⟨⟨(V14, L), rfl, ⟨hMV14, agV14, rfl, (Imp.mk (fun hp => have hp : (V14 0 8).toInt = 0 := hp; (show 0 ≤ (V14 0 7).toInt ∧ (V14 0 7).toInt ≤ n ∧ (V 0 8).toInt = 0 ∧ (V 0 7).toInt ≤ (V14 0 7).toInt from by first | omega | ((try (have i_t6 := Imp.go t6 (by omega))); (try (have i_t5 := Imp.go t5 (by omega))); (try (have i_x3 := Imp.go x3 (by omega))); (try (have i_x3 := Imp.go x3 (by omega))); (try (have i_t5 := Imp.go t5 (by omega))); (try (have i_t6 := Imp.go t6 (by omega))); omega)))), (Imp.mk (fun hp => have hp : (V14 0 8).toInt = 0 := hp; (show (V 0 7).toInt + 1 ≤ (V14 0 7).toInt from by first | omega | ((try (have i_t6 := Imp.go t6 (by omega))); (try (have i_t5 := Imp.go t5 (by omega))); (try (have i_x3 := Imp.go x3 (by omega))); (try (have i_x3 := Imp.go x3 (by omega))); (try (have i_t5 := Imp.go t5 (by omega))); (try (have i_t6 := Imp.go t6 (by omega))); omega)))), (Imp.mk (fun hp => have hp : 1 ≤ (V 0 8).toInt := hp; (show 1 ≤ (V14 0 8).toInt from by first | omega | ((try (have i_t6 := Imp.go t6 (by omega))); (try (have i_t5 := Imp.go t5 (by omega))); (try (have i_x3 := Imp.go x3 (by omega))); (try (have i_x3 := Imp.go x3 (by omega))); (try (have i_t5 := Imp.go t5 (by omega))); (try (have i_t6 := Imp.go t6 (by omega))); omega))))⟩, by rw [ht]; exact hP, va_K.moved hW.alike hK, hD⟩, hS.F ht⟩) hS.2.2 dX12_takeSign_26
  · skip
    have f18 : z2.toInt ≠ 0 := b_neq rfl (by decide) c7
    refine lv_aload_n hx hb dX12_takeSign_8 rfl (lv_at hl 0 rfl) ?_
    refine lv_dup hx hb dX12_takeSign_9 rfl ?_
    refine va_get (D := D) (ci := 12) (v := .int (V 0 7)) (C := RX12) (T := TX12) (N := 100) hx hb hg inX12 hown hK hP 0 rfl rfl 7 (by decide) (hg _ w1713) (fun _ h9 => h9) rfl dX12_takeSign_10 ?_
    refine lv_iconst (v := 1) hx hb dX12_takeSign_13 (by decide) ?_
    refine lv_iadd hx hb dX12_takeSign_14 ?_
    have r19 := i_full (V 0 7)
    refine lv_topi (fun z20 ez20 => ?_)
    have hz20 : Imp (-2147483648 ≤ ((V 0 7)).toInt + 1 ∧ ((V 0 7)).toInt + 1 ≤ 2147483647) (z20.toInt = ((V 0 7)).toInt + 1) := Imp.mk (fun hp => i_add ez20 rfl (by decide) hp)
    refine va_put (D := D) (ci := 12) (v := .int z20) (ty := tyX12 7) (C := RX12) (T := TX12) (N := 100) hx hb hg inX12 tyX12 tyX12_ok nmX12 hown hK hP hD hS 0 rfl rfl 7 (by decide) (hg _ w1713) (fun _ h9 => h9) rfl (tyX12_ok 7 (by decide)) rfl rfl (Nat.le_of_ble_eq_true rfl) dX12_takeSign_15 (fun H locs hP hD hS => ?_)
    obtain ⟨V21, hV21⟩ : ∃ z, z = up2 V 0 7 z20 := ⟨_, rfl⟩
    have hP : va_P D vwCl (mw ad kk ks.1 V21 L) H := by rw [hV21]; exact hP
    have hD : va_D A (mw ad kk ks.1 V21 L) := by rw [hV21]; exact hD
    have hMV21 : rgd bM V21 := hMV.put hV21 (i_full _)
    have agV21 : agr [(0, 7), (0, 8)] [] V V21 := agV.up hV21 rfl
    refine lv_goto (tgt := 26) hx hb dX12_takeSign_18 (by decide) ?_
    have pq22 : (V21 0 7).toInt = z20.toInt := congrArg Int32.toInt (up2_s hV21)
    have pq23 : (V21 0 8).toInt = ((V 0 8)).toInt := congrArg Int32.toInt (up2_k hV21 (by decide))
    exact W.vret hx hb hr (fun t ht hW => ⟨⟨(V21, L), rfl, ⟨hMV21, agV21, rfl, (Imp.mk (fun hp => have hp : (V21 0 8).toInt = 0 := hp; (show 0 ≤ (V21 0 7).toInt ∧ (V21 0 7).toInt ≤ n ∧ (V 0 8).toInt = 0 ∧ (V 0 7).toInt ≤ (V21 0 7).toInt from by first | omega | ((try (have i_hz20 := Imp.go hz20 (by omega))); (try (have i_t6 := Imp.go t6 (by omega))); (try (have i_t5 := Imp.go t5 (by omega))); (try (have i_x3 := Imp.go x3 (by omega))); first | omega | ((try (have i_x3 := Imp.go x3 (by omega))); (try (have i_t5 := Imp.go t5 (by omega))); (try (have i_t6 := Imp.go t6 (by omega))); (try (have i_hz20 := Imp.go hz20 (by omega))); omega))))), (Imp.mk (fun hp => have hp : (V21 0 8).toInt = 0 := hp; (show (V 0 7).toInt + 1 ≤ (V21 0 7).toInt from by first | omega | ((try (have i_hz20 := Imp.go hz20 (by omega))); (try (have i_t6 := Imp.go t6 (by omega))); (try (have i_t5 := Imp.go t5 (by omega))); (try (have i_x3 := Imp.go x3 (by omega))); first | omega | ((try (have i_x3 := Imp.go x3 (by omega))); (try (have i_t5 := Imp.go t5 (by omega))); (try (have i_t6 := Imp.go t6 (by omega))); (try (have i_hz20 := Imp.go hz20 (by omega))); omega))))), (Imp.mk (fun hp => have hp : 1 ≤ (V 0 8).toInt := hp; (show 1 ≤ (V21 0 8).toInt from by first | omega | ((try (have i_hz20 := Imp.go hz20 (by omega))); (try (have i_t6 := Imp.go t6 (by omega))); (try (have i_t5 := Imp.go t5 (by omega))); (try (have i_x3 := Imp.go x3 (by omega))); first | omega | ((try (have i_x3 := Imp.go x3 (by omega))); (try (have i_t5 := Imp.go t5 (by omega))); (try (have i_t6 := Imp.go t6 (by omega))); (try (have i_hz20 := Imp.go hz20 (by omega))); omega)))))⟩, by rw [ht]; exact hP, va_K.moved hW.alike hK, hD⟩, hS.F ht⟩) hS.2.2 dX12_takeSign_26
abbrev r_s_takeWord2 : Room := { frames := 2, cells := 0, slots := 0, locals := 43 }
abbrev q_s_takeWord2 (D : va_G) (ks : KS) (ad : Nat → Nat) (kk : Nat → ClassId) (V : Vf) (L : Lf) (p0 : Int32) (n : Nat) (A : Nat → Prop) : Array Value → State → Outcome → State → Prop := va_Qv (fun (u : Vf × Lf) => rgd bM u.1 ∧ agr [(0, 7), (0, 8)] [] V u.1 ∧ u.2 = L ∧ (Imp ((u.1 0 8).toInt = 0) (0 ≤ (u.1 0 7).toInt ∧ (u.1 0 7).toInt ≤ n ∧ (V 0 8).toInt = 0 ∧ (V 0 7).toInt ≤ (u.1 0 7).toInt)) ∧ (Imp ((u.1 0 8).toInt = 0) ((V 0 7).toInt + 1 ≤ (u.1 0 7).toInt)) ∧ (Imp (1 ≤ (V 0 8).toInt) (1 ≤ (u.1 0 8).toInt)) ∧ (Imp ((u.1 0 8).toInt = 0) (atW V L (Int32.toNatClampNeg p0)))) (fun u t => gq D A (mw ad kk ks.1 u.1 u.2) (mty kk) t) A
set_option maxHeartbeats 4000000 in
set_option maxRecDepth 100000 in
theorem s_takeWord2 (l : Launch) (D : va_G) (ks : KS) (sz : Nat) (ad : Nat → Nat) (kk : Nat → ClassId) (V : Vf) (L : Lf) (p0 : Int32) (n : Nat) (hMV : rgd bM V) (rg_p0 : 0 ≤ p0.toInt ∧ p0.toInt ≤ 29) (x1 : (V 4 n).toInt = 0) (x2 : n ≤ 4000) (x3 : Imp ((V 0 8).toInt = 0) (0 ≤ (V 0 7).toInt ∧ (V 0 7).toInt ≤ n))  : Met l yX12_takeWord (Cond.code yX12_takeWord cX12_takeWord 2 none :: GW) r_s_takeWord2 (va_Pc [.ref (ad 0), .int p0] (gp D ks (mw ad kk ks.1 V L) (mty kk) sz)) (q_s_takeWord2 D ks ad kk V L p0 n (va_A (mw ad kk ks.1 V L) sz)) 0 0 (va_A (mw ad kk ks.1 V L) sz) := by
  refine g_met (q_s_takeWord2 D ks ad kk V L p0 n) (by decide) (Nat.le_of_ble_eq_true rfl) ?_
  intro p e s m below meth c A ls H locs hx hb hr hml hown hg hlocks hin hnw hgk hP hK hD hS hA hl
  have hown : s.vm.findClass RX12 = some m.cls := hown
  have hl : lv_has ls 2 [(0, .ref (ad 0)), (1, .int p0)] := hl
  have hP : va_P D vwCl (mw ad kk ks.1 V L) H := hP
  have hD : va_D A (mw ad kk ks.1 V L) := hD
  have hK : va_K D vwCl (mty kk) s := hK
  have agV : agr [(0, 7), (0, 8)] [] V V := agr.rf
  have r1 : 0 ≤ ((V 0 8)).toInt ∧ ((V 0 8)).toInt ≤ 70000 := hMV 0 8
  refine lv_aload_n hx hb dX12_takeWord_0 rfl (lv_at hl 0 rfl) ?_
  refine lv_iload_n hx hb dX12_takeWord_1 rfl (lv_at hl 1 rfl) ?_
  refine gA_int (gA_runV (As := [.int p0]) (rest := []) (ci := 12) (q0 := 0) hx hb hml hown hg hP hD hK hS hA hnw hgk (s_hasWord3 l D ks H.size ad kk V L p0 (n) hMV (by first | omega | ((try (have i_x3 := Imp.go x3 (by omega))); omega)) (show (V 4 (n)).toInt = 0 from by first | omega | ((try (have i_x3 := Imp.go x3 (by omega))); omega)) (show (n) ≤ 4000 from by first | omega | ((try (have i_x3 := Imp.go x3 (by omega))); omega)) (Imp.mk (fun hp => have hp : (V 0 8).toInt = 0 := hp; (show 0 ≤ (V 0 7).toInt ∧ (V 0 7).toInt ≤ (n) from by first | omega | ((try (have i_x3 := Imp.go x3 (by omega))); omega))))) w2051 w2053 w90 w172 w2054 rfl rfl hdV_yX12_hasWord ⟨Nat.le_of_ble_eq_true rfl, Nat.le_of_ble_eq_true rfl⟩ rfl hl.1 rfl (Nat.le_of_ble_eq_true rfl) dX12_takeWord_2 ⟨Nat.le_of_ble_eq_true rfl, Nat.le_of_ble_eq_true rfl⟩) hP hD hK hS hA (fun z2 u3 H locs w4 hP hD hK hS => ?_)
  obtain ⟨V9, L10⟩ := u3
  obtain ⟨hMV9, ajV9, axL10, rgz2, t5, t6, t7, t8⟩ := w4
  have axL10 : L = L10 := Eq.symm axL10
  subst axL10
  have hP : va_P D vwCl (mw ad kk ks.1 V9 L) H := hP
  have hD : va_D A (mw ad kk ks.1 V9 L) := hD
  have hMV9 : rgd bM V9 := hMV9
  have ajV9 : agr [(0, 7)] [] V V9 := ajV9
  have agV9 : agr [(0, 7), (0, 8)] [] V V9 := agV.tr ajV9 (by decide) (by decide)
  have rgz2 : 0 ≤ z2.toInt ∧ z2.toInt ≤ 1 := rgz2
  have t5 : Imp ((V9 0 8).toInt = 0) (0 ≤ (V9 0 7).toInt ∧ (V9 0 7).toInt ≤ (n) ∧ (V 0 8).toInt = 0 ∧ (V 0 7).toInt ≤ (V9 0 7).toInt) := t5
  have t6 : Imp (z2.toInt = 1) ((V9 0 8).toInt = 0 ∧ (V 0 7).toInt + 1 ≤ (V9 0 7).toInt) := t6
  have t7 : Imp (z2.toInt = 0) ((V9 0 7).toInt = (V 0 7).toInt) := t7
  have t8 : Imp (z2.toInt = 1) (atW V L (Int32.toNatClampNeg p0)) := t8
  have pq11 : (V9 0 8).toInt = ((V 0 8)).toInt := congrArg Int32.toInt (ajV9 0 8 rfl)
  refine lv_if_ne (tgt := 13) hx hb dX12_takeWord_5 (by decide) (fun c12 => ?_) (fun c12 => ?_)
  · skip
    have f13 : z2.toInt ≠ 0 := b_neq rfl (by decide) c12
    exact W.vret hx hb hr (fun t ht hW => ⟨⟨(V9, L), rfl, ⟨hMV9, agV9, rfl, (Imp.mk (fun hp => have hp : (V9 0 8).toInt = 0 := hp; (show 0 ≤ (V9 0 7).toInt ∧ (V9 0 7).toInt ≤ n ∧ (V 0 8).toInt = 0 ∧ (V 0 7).toInt ≤ (V9 0 7).toInt from by first | omega | ((try (have i_t7 := Imp.go t7 (by omega))); (try (have i_t6 := Imp.go t6 (by omega))); (try (have i_t5 := Imp.go t5 (by omega))); (try (have i_x3 := Imp.go x3 (by omega))); first | omega | ((try (have i_x3 := Imp.go x3 (by omega))); (try (have i_t5 := Imp.go t5 (by omega))); (try (have i_t6 := Imp.go t6 (by omega))); (try (have i_t7 := Imp.go t7 (by omega))); omega))))), (Imp.mk (fun hp => have hp : (V9 0 8).toInt = 0 := hp; (show (V 0 7).toInt + 1 ≤ (V9 0 7).toInt from by first | omega | ((try (have i_t7 := Imp.go t7 (by omega))); (try (have i_t6 := Imp.go t6 (by omega))); (try (have i_t5 := Imp.go t5 (by omega))); (try (have i_x3 := Imp.go x3 (by omega))); first | omega | ((try (have i_x3 := Imp.go x3 (by omega))); (try (have i_t5 := Imp.go t5 (by omega))); (try (have i_t6 := Imp.go t6 (by omega))); (try (have i_t7 := Imp.go t7 (by omega))); omega))))), (Imp.mk (fun hp => have hp : 1 ≤ (V 0 8).toInt := hp; (show 1 ≤ (V9 0 8).toInt from by first | omega | ((try (have i_t7 := Imp.go t7 (by omega))); (try (have i_t6 := Imp.go t6 (by omega))); (try (have i_t5 := Imp.go t5 (by omega))); (try (have i_x3 := Imp.go x3 (by omega))); first | omega | ((try (have i_x3 := Imp.go x3 (by omega))); (try (have i_t5 := Imp.go t5 (by omega))); (try (have i_t6 := Imp.go t6 (by omega))); (try (have i_t7 := Imp.go t7 (by omega))); omega))))), (Imp.mk (fun hp => Imp.go t8 (by first | omega | ((try (have i_t7 := Imp.go t7 (by omega))); (try (have i_t6 := Imp.go t6 (by omega))); (try (have i_t5 := Imp.go t5 (by omega))); (try (have i_x3 := Imp.go x3 (by omega))); first | omega | ((try (have i_x3 := Imp.go x3 (by omega))); (try (have i_t5 := Imp.go t5 (by omega))); (try (have i_t6 := Imp.go t6 (by omega))); (try (have i_t7 := Imp.go t7 (by omega))); omega)))))⟩, by rw [ht]; exact hP, va_K.moved hW.alike hK, hD⟩, hS.F ht⟩) hS.2.2 dX12_takeWord_13
  · skip
    have f14 : z2.toInt = 0 := b_eq rfl (by decide) c12
    refine lv_aload_n hx hb dX12_takeWord_8 rfl (lv_at hl 0 rfl) ?_
    refine lv_iconst (v := 1) hx hb dX12_takeWord_9 (by decide) ?_
    have r15 : Int32.toInt 1 = 1 := by decide
    have pq16 : (V9 4 n).toInt = ((V 4 n)).toInt := congrArg Int32.toInt (ajV9 4 n rfl)
    refine gA_void (gA_runV (As := [.int 1]) (rest := []) (ci := 12) (q0 := 0) hx hb hml hown hg hP hD hK hS hA hnw hgk (s_wrong l D ks H.size ad kk V9 L 1 (n) hMV9 (by decide) (show (V9 4 (n)).toInt = 0 from by first | omega | ((try (have i_t7 := Imp.go t7 (by omega))); (try (have i_t6 := Imp.go t6 (by omega))); (try (have i_t5 := Imp.go t5 (by omega))); (try (have i_x3 := Imp.go x3 (by omega))); first | omega | ((try (have i_x3 := Imp.go x3 (by omega))); (try (have i_t5 := Imp.go t5 (by omega))); (try (have i_t6 := Imp.go t6 (by omega))); (try (have i_t7 := Imp.go t7 (by omega))); omega))) (show (n) ≤ 4000 from by first | omega | ((try (have i_t7 := Imp.go t7 (by omega))); (try (have i_t6 := Imp.go t6 (by omega))); (try (have i_t5 := Imp.go t5 (by omega))); (try (have i_x3 := Imp.go x3 (by omega))); first | omega | ((try (have i_x3 := Imp.go x3 (by omega))); (try (have i_t5 := Imp.go t5 (by omega))); (try (have i_t6 := Imp.go t6 (by omega))); (try (have i_t7 := Imp.go t7 (by omega))); omega))) (Imp.mk (fun hp => have hp : (V9 0 8).toInt = 0 := hp; (show 0 ≤ (V9 0 7).toInt ∧ (V9 0 7).toInt ≤ (n) from by first | omega | ((try (have i_t7 := Imp.go t7 (by omega))); (try (have i_t6 := Imp.go t6 (by omega))); (try (have i_t5 := Imp.go t5 (by omega))); (try (have i_x3 := Imp.go x3 (by omega))); first | omega | ((try (have i_x3 := Imp.go x3 (by omega))); (try (have i_t5 := Imp.go t5 (by omega))); (try (have i_t6 := Imp.go t6 (by omega))); (try (have i_t7 := Imp.go t7 (by omega))); omega)))))) w2035 w2037 w86 w172 w2038 rfl rfl hdV_yX12_wrong ⟨Nat.le_of_ble_eq_true rfl, Nat.le_of_ble_eq_true rfl⟩ rfl hl.1 rfl (Nat.le_of_ble_eq_true rfl) dX12_takeWord_10 ⟨Nat.le_of_ble_eq_true rfl, Nat.le_of_ble_eq_true rfl⟩) hP hD hK hS hA (fun u18 H locs w19 hP hD hK hS => ?_)
    obtain ⟨V21, L22⟩ := u18
    obtain ⟨hMV21, ajV21, axL22, t20⟩ := w19
    have axL22 : L = L22 := Eq.symm axL22
    subst axL22
    have hP : va_P D vwCl (mw ad kk ks.1 V21 L) H := hP
    have hD : va_D A (mw ad kk ks.1 V21 L) := hD
    have hMV21 : rgd bM V21 := hMV21
    have ajV21 : agr [(0, 8)] [] V9 V21 := ajV21
    have agV21 : agr [(0, 7), (0, 8)] [] V V21 := agV9.tr ajV21 (by decide) (by decide)
    have t20 : 1 ≤ (V21 0 8).toInt := t20
    have r23 : 0 ≤ ((V21 0 8)).toInt ∧ ((V21 0 8)).toInt ≤ 70000 := hMV21 0 8
    have pq24 : (V21 0 7).toInt = ((V9 0 7)).toInt := congrArg Int32.toInt (ajV21 0 7 rfl)
    exact W.vret hx hb hr (fun t ht hW => ⟨⟨(V21, L), rfl, ⟨hMV21, agV21, rfl, (Imp.mk (fun hp => have hp : (V21 0 8).toInt = 0 := hp; (show 0 ≤ (V21 0 7).toInt ∧ (V21 0 7).toInt ≤ n ∧ (V 0 8).toInt = 0 ∧ (V 0 7).toInt ≤ (V21 0 7).toInt from by first | omega | ((try (have i_t7 := Imp.go t7 (by omega))); (try (have i_t6 := Imp.go t6 (by omega))); (try (have i_t5 := Imp.go t5 (by omega))); (try (have i_x3 := Imp.go x3 (by omega))); first | omega | ((try (have i_x3 := Imp.go x3 (by omega))); (try (have i_t5 := Imp.go t5 (by omega))); (try (have i_t6 := Imp.go t6 (by omega))); (try (have i_t7 := Imp.go t7 (by omega))); omega))))), (Imp.mk (fun hp => have hp : (V21 0 8).toInt = 0 := hp; (show (V 0 7).toInt + 1 ≤ (V21 0 7).toInt from by first | omega | ((try (have i_t7 := Imp.go t7 (by omega))); (try (have i_t6 := Imp.go t6 (by omega))); (try (have i_t5 := Imp.go t5 (by omega))); (try (have i_x3 := Imp.go x3 (by omega))); first | omega | ((try (have i_x3 := Imp.go x3 (by omega))); (try (have i_t5 := Imp.go t5 (by omega))); (try (have i_t6 := Imp.go t6 (by omega))); (try (have i_t7 := Imp.go t7 (by omega))); omega))))), (Imp.mk (fun hp => have hp : 1 ≤ (V 0 8).toInt := hp; (show 1 ≤ (V21 0 8).toInt from by first | omega | ((try (have i_t7 := Imp.go t7 (by omega))); (try (have i_t6 := Imp.go t6 (by omega))); (try (have i_t5 := Imp.go t5 (by omega))); (try (have i_x3 := Imp.go x3 (by omega))); first | omega | ((try (have i_x3 := Imp.go x3 (by omega))); (try (have i_t5 := Imp.go t5 (by omega))); (try (have i_t6 := Imp.go t6 (by omega))); (try (have i_t7 := Imp.go t7 (by omega))); omega))))), (Imp.mk (fun hp => by exfalso; first | omega | ((try (have i_t7 := Imp.go t7 (by omega))); (try (have i_t6 := Imp.go t6 (by omega))); (try (have i_t5 := Imp.go t5 (by omega))); (try (have i_x3 := Imp.go x3 (by omega))); first | omega | ((try (have i_x3 := Imp.go x3 (by omega))); (try (have i_t5 := Imp.go t5 (by omega))); (try (have i_t6 := Imp.go t6 (by omega))); (try (have i_t7 := Imp.go t7 (by omega))); omega))))⟩, by rw [ht]; exact hP, va_K.moved hW.alike hK, hD⟩, hS.F ht⟩) hS.2.2 dX12_takeWord_13
abbrev r_s_isPart3 : Room := { frames := 1, cells := 0, slots := 0, locals := 21 }
abbrev q_s_isPart3 (D : va_G) (ks : KS) (ad : Nat → Nat) (kk : Nat → ClassId) (V : Vf) (L : Lf) (n : Nat) (A : Nat → Prop) : Array Value → State → Outcome → State → Prop := va_Qi (fun (r : Int32) (_ : Unit) => (0 ≤ r.toInt ∧ r.toInt ≤ 1) ∧ (Imp (r.toInt = 1) ((V 0 8).toInt = 0 ∧ 0 ≤ (V 0 7).toInt ∧ (V 0 7).toInt < n)) ∧ (Imp (r.toInt = 1) (0 ≤ (V 0 51).toInt ∨ ¬ atW V L 18)) ∧ (Imp (r.toInt = 1) ((V 0 52).toInt = 1 ∨ ¬ atW V L 19))) (fun _ t => gq D A (mw ad kk ks.1 V L) (mty kk) t) A
set_option maxHeartbeats 4000000 in
set_option maxRecDepth 100000 in
theorem s_isPart3 (l : Launch) (D : va_G) (ks : KS) (sz : Nat) (ad : Nat → Nat) (kk : Nat → ClassId) (V : Vf) (L : Lf) (n : Nat) (hMV : rgd bM V) (x1 : (V 4 n).toInt = 0) (x2 : n ≤ 4000) (x3 : Imp ((V 0 8).toInt = 0) (0 ≤ (V 0 7).toInt ∧ (V 0 7).toInt ≤ n)) (w3 : wd L)  : Met l yX12_isPart (Cond.code yX12_isPart cX12_isPart 1 (some .boolean) :: GW) r_s_isPart3 (va_Pc [.ref (ad 0)] (gp D ks (mw ad kk ks.1 V L) (mty kk) sz)) (q_s_isPart3 D ks ad kk V L  n (va_A (mw ad kk ks.1 V L) sz)) 0 0 (va_A (mw ad kk ks.1 V L) sz) := by
  refine g_met (q_s_isPart3 D ks ad kk V L  n) (by decide) (Nat.le_of_ble_eq_true rfl) ?_
  intro p e s m below meth c A ls H locs hx hb hr hml hown hg hlocks hin hnw hgk hP hK hD hS hA hl
  have hown : s.vm.findClass RX12 = some m.cls := hown
  have hl : lv_has ls 1 [(0, .ref (ad 0))] := hl
  have hP : va_P D vwCl (mw ad kk ks.1 V L) H := hP
  have hD : va_D A (mw ad kk ks.1 V L) := hD
  have hK : va_K D vwCl (mty kk) s := hK
  have r1 : 0 ≤ ((V 0 8)).toInt ∧ ((V 0 8)).toInt ≤ 70000 := hMV 0 8
  refine lv_aload_n hx hb dX12_isPart_0 rfl (lv_at hl 0 rfl) ?_
  refine va_get (D := D) (ci := 12) (v := .int (V 0 8)) (C := RX12) (T := TX12) (N := 100) hx hb hg inX12 hown hK hP 0 rfl rfl 8 (by decide) (hg _ w1714) (fun _ h9 => h9) rfl dX12_isPart_1 ?_
  refine lv_if_ne (tgt := 109) hx hb dX12_isPart_4 (by decide) (fun c2 => ?_) (fun c2 => ?_)
  · skip
    have f3 : ((V 0 8)).toInt ≠ 0 := b_neq rfl (by decide) c2
    refine lv_iconst (v := 0) hx hb dX12_isPart_109 (by decide) ?_
    exact W.zret (v := 0) hx hb hr rfl (fun t ht hW => ⟨⟨0, (), rfl, ⟨(by decide), (Imp.mk (fun hp => absurd hp (by decide))), (Imp.mk (fun hp => absurd hp (by decide))), (Imp.mk (fun hp => absurd hp (by decide)))⟩, by rw [ht]; exact hP, va_K.moved hW.alike hK, hD⟩, hS.F ht⟩) hS.2.2 dX12_isPart_110
  · skip
    have f4 : ((V 0 8)).toInt = 0 := b_eq rfl (by decide) c2
    refine lv_aload_n hx hb dX12_isPart_7 rfl (lv_at hl 0 rfl) ?_
    refine va_get (D := D) (ci := 12) (v := .ref (ad 4)) (C := RX12) (T := TX12) (N := 100) hx hb hg inX12 hown hK hP 0 rfl rfl 4 (by decide) (hg _ w1710) (fun _ h9 => h9) rfl dX12_isPart_8 ?_
    refine lv_aload_n hx hb dX12_isPart_11 rfl (lv_at hl 0 rfl) ?_
    refine va_get (D := D) (ci := 12) (v := .int (V 0 7)) (C := RX12) (T := TX12) (N := 100) hx hb hg inX12 hown hK hP 0 rfl rfl 7 (by decide) (hg _ w1713) (fun _ h9 => h9) rfl dX12_isPart_12 ?_
    refine va_iald (D := D) (i := (V 0 7)) hx hb hK hP 2 1 rfl rfl (i_in (a := ((V 0 7)).toInt) rfl (by first | omega | ((try (have i_w3 := Imp.go w3 (by omega))); (try (have i_x3 := Imp.go x3 (by omega))); (try (have i_x3 := Imp.go x3 (by omega))); (try (have i_w3 := Imp.go w3 (by omega))); omega))) dX12_isPart_15 ?_
    have t5 := tok_ne (V := V) (x := (V 0 7)) (n := n) x1 (by first | omega | ((try (have i_w3 := Imp.go w3 (by omega))); (try (have i_x3 := Imp.go x3 (by omega))); (try (have i_x3 := Imp.go x3 (by omega))); (try (have i_w3 := Imp.go w3 (by omega))); omega))
    refine lv_iconst (v := 2) hx hb dX12_isPart_16 (by decide) ?_
    refine lv_icmp_eq (tgt := 105) hx hb dX12_isPart_17 (by decide) (fun c6 => ?_) (fun c6 => ?_)
    · skip
      have f7 : ((V 4 (Int32.toNatClampNeg (V 0 7)))).toInt = 2 := b_eq rfl (by decide) c6
      refine lv_iconst (v := 1) hx hb dX12_isPart_105 (by decide) ?_
      refine lv_goto (tgt := 110) hx hb dX12_isPart_106 (by decide) ?_
      exact W.zret (v := 1) hx hb hr rfl (fun t ht hW => ⟨⟨1, (), rfl, ⟨(by decide), (Imp.mk (fun _ => (show (V 0 8).toInt = 0 ∧ 0 ≤ (V 0 7).toInt ∧ (V 0 7).toInt < n from by first | omega | ((try (have i_t5 := Imp.go t5 (by omega))); (try (have i_w3 := Imp.go w3 (by omega))); (try (have i_x3 := Imp.go x3 (by omega))); (try (have i_x3 := Imp.go x3 (by omega))); (try (have i_w3 := Imp.go w3 (by omega))); (try (have i_t5 := Imp.go t5 (by omega))); omega)))), (Imp.mk (fun _ => Or.inr (fun q => by have q1 := q.1; first | omega | ((try (have i_t5 := Imp.go t5 (by omega))); (try (have i_w3 := Imp.go w3 (by omega))); (try (have i_x3 := Imp.go x3 (by omega))); (try (have i_x3 := Imp.go x3 (by omega))); (try (have i_w3 := Imp.go w3 (by omega))); (try (have i_t5 := Imp.go t5 (by omega))); omega)))), (Imp.mk (fun _ => Or.inr (fun q => by have q1 := q.1; first | omega | ((try (have i_t5 := Imp.go t5 (by omega))); (try (have i_w3 := Imp.go w3 (by omega))); (try (have i_x3 := Imp.go x3 (by omega))); (try (have i_x3 := Imp.go x3 (by omega))); (try (have i_w3 := Imp.go w3 (by omega))); (try (have i_t5 := Imp.go t5 (by omega))); omega))))⟩, by rw [ht]; exact hP, va_K.moved hW.alike hK, hD⟩, hS.F ht⟩) hS.2.2 dX12_isPart_110
    · skip
      have f8 : ((V 4 (Int32.toNatClampNeg (V 0 7)))).toInt ≠ 2 := b_neq rfl (by decide) c6
      refine lv_aload_n hx hb dX12_isPart_20 rfl (lv_at hl 0 rfl) ?_
      refine lv_bipush (v := 40) hx hb dX12_isPart_21 (by decide) ?_
      have r9 : Int32.toInt 40 = 40 := by decide
      refine gA_int (gA_runV (As := [.int 40]) (rest := []) (ci := 12) (q0 := 0) hx hb hml hown hg hP hD hK hS hA hnw hgk (s_isSign3 l D ks H.size ad kk V L 40 (n) hMV (show (V 4 (n)).toInt = 0 from by first | omega | ((try (have i_t5 := Imp.go t5 (by omega))); (try (have i_w3 := Imp.go w3 (by omega))); (try (have i_x3 := Imp.go x3 (by omega))); (try (have i_x3 := Imp.go x3 (by omega))); (try (have i_w3 := Imp.go w3 (by omega))); (try (have i_t5 := Imp.go t5 (by omega))); omega)) (show (n) ≤ 4000 from by first | omega | ((try (have i_t5 := Imp.go t5 (by omega))); (try (have i_w3 := Imp.go w3 (by omega))); (try (have i_x3 := Imp.go x3 (by omega))); (try (have i_x3 := Imp.go x3 (by omega))); (try (have i_w3 := Imp.go w3 (by omega))); (try (have i_t5 := Imp.go t5 (by omega))); omega)) (Imp.mk (fun hp => have hp : (V 0 8).toInt = 0 := hp; (show 0 ≤ (V 0 7).toInt ∧ (V 0 7).toInt ≤ (n) from by first | omega | ((try (have i_t5 := Imp.go t5 (by omega))); (try (have i_w3 := Imp.go w3 (by omega))); (try (have i_x3 := Imp.go x3 (by omega))); (try (have i_x3 := Imp.go x3 (by omega))); (try (have i_w3 := Imp.go w3 (by omega))); (try (have i_t5 := Imp.go t5 (by omega))); omega))))) w2071 w2073 w95 w172 w2074 rfl rfl hdV_yX12_isSign ⟨Nat.le_of_ble_eq_true rfl, Nat.le_of_ble_eq_true rfl⟩ rfl hl.1 rfl (Nat.le_of_ble_eq_true rfl) dX12_isPart_23 ⟨Nat.le_of_ble_eq_true rfl, Nat.le_of_ble_eq_true rfl⟩) hP hD hK hS hA (fun z10 u11 H locs w12 hP hD hK hS => ?_)
      obtain ⟨rgz10, t13, t14⟩ := w12
      have rgz10 : 0 ≤ z10.toInt ∧ z10.toInt ≤ 1 := rgz10
      have t13 : Imp (z10.toInt = 1) ((V 0 8).toInt = 0 ∧ 0 ≤ (V 0 7).toInt ∧ (V 0 7).toInt < (n)) := t13
      have t14 : Imp (z10.toInt = 1) ((V 4 (Int32.toNatClampNeg (V 0 7))).toInt = 3) := t14
      refine lv_if_ne (tgt := 105) hx hb dX12_isPart_26 (by decide) (fun c15 => ?_) (fun c15 => ?_)
      · skip
        have f16 : z10.toInt ≠ 0 := b_neq rfl (by decide) c15
        refine lv_iconst (v := 1) hx hb dX12_isPart_105 (by decide) ?_
        refine lv_goto (tgt := 110) hx hb dX12_isPart_106 (by decide) ?_
        exact W.zret (v := 1) hx hb hr rfl (fun t ht hW => ⟨⟨1, (), rfl, ⟨(by decide), (Imp.mk (fun _ => (show (V 0 8).toInt = 0 ∧ 0 ≤ (V 0 7).toInt ∧ (V 0 7).toInt < n from by first | omega | ((try (have i_t14 := Imp.go t14 (by omega))); (try (have i_t13 := Imp.go t13 (by omega))); (try (have i_t5 := Imp.go t5 (by omega))); (try (have i_w3 := Imp.go w3 (by omega))); first | omega | ((try (have i_x3 := Imp.go x3 (by omega))); (try (have i_x3 := Imp.go x3 (by omega))); (try (have i_w3 := Imp.go w3 (by omega))); (try (have i_t5 := Imp.go t5 (by omega))); (try (have i_t13 := Imp.go t13 (by omega))); (try (have i_t14 := Imp.go t14 (by omega))); omega))))), (Imp.mk (fun _ => Or.inr (fun q => by have q1 := q.1; first | omega | ((try (have i_t14 := Imp.go t14 (by omega))); (try (have i_t13 := Imp.go t13 (by omega))); (try (have i_t5 := Imp.go t5 (by omega))); (try (have i_w3 := Imp.go w3 (by omega))); first | omega | ((try (have i_x3 := Imp.go x3 (by omega))); (try (have i_x3 := Imp.go x3 (by omega))); (try (have i_w3 := Imp.go w3 (by omega))); (try (have i_t5 := Imp.go t5 (by omega))); (try (have i_t13 := Imp.go t13 (by omega))); (try (have i_t14 := Imp.go t14 (by omega))); omega))))), (Imp.mk (fun _ => Or.inr (fun q => by have q1 := q.1; first | omega | ((try (have i_t14 := Imp.go t14 (by omega))); (try (have i_t13 := Imp.go t13 (by omega))); (try (have i_t5 := Imp.go t5 (by omega))); (try (have i_w3 := Imp.go w3 (by omega))); first | omega | ((try (have i_x3 := Imp.go x3 (by omega))); (try (have i_x3 := Imp.go x3 (by omega))); (try (have i_w3 := Imp.go w3 (by omega))); (try (have i_t5 := Imp.go t5 (by omega))); (try (have i_t13 := Imp.go t13 (by omega))); (try (have i_t14 := Imp.go t14 (by omega))); omega)))))⟩, by rw [ht]; exact hP, va_K.moved hW.alike hK, hD⟩, hS.F ht⟩) hS.2.2 dX12_isPart_110
      · skip
        have f17 : z10.toInt = 0 := b_eq rfl (by decide) c15
        refine lv_aload_n hx hb dX12_isPart_29 rfl (lv_at hl 0 rfl) ?_
        refine lv_bipush (v := 45) hx hb dX12_isPart_30 (by decide) ?_
        have r18 : Int32.toInt 45 = 45 := by decide
        refine gA_int (gA_runV (As := [.int 45]) (rest := []) (ci := 12) (q0 := 0) hx hb hml hown hg hP hD hK hS hA hnw hgk (s_isSign3 l D ks H.size ad kk V L 45 (n) hMV (show (V 4 (n)).toInt = 0 from by first | omega | ((try (have i_t14 := Imp.go t14 (by omega))); (try (have i_t13 := Imp.go t13 (by omega))); (try (have i_t5 := Imp.go t5 (by omega))); (try (have i_w3 := Imp.go w3 (by omega))); first | omega | ((try (have i_x3 := Imp.go x3 (by omega))); (try (have i_x3 := Imp.go x3 (by omega))); (try (have i_w3 := Imp.go w3 (by omega))); (try (have i_t5 := Imp.go t5 (by omega))); (try (have i_t13 := Imp.go t13 (by omega))); (try (have i_t14 := Imp.go t14 (by omega))); omega))) (show (n) ≤ 4000 from by first | omega | ((try (have i_t14 := Imp.go t14 (by omega))); (try (have i_t13 := Imp.go t13 (by omega))); (try (have i_t5 := Imp.go t5 (by omega))); (try (have i_w3 := Imp.go w3 (by omega))); first | omega | ((try (have i_x3 := Imp.go x3 (by omega))); (try (have i_x3 := Imp.go x3 (by omega))); (try (have i_w3 := Imp.go w3 (by omega))); (try (have i_t5 := Imp.go t5 (by omega))); (try (have i_t13 := Imp.go t13 (by omega))); (try (have i_t14 := Imp.go t14 (by omega))); omega))) (Imp.mk (fun hp => have hp : (V 0 8).toInt = 0 := hp; (show 0 ≤ (V 0 7).toInt ∧ (V 0 7).toInt ≤ (n) from by first | omega | ((try (have i_t14 := Imp.go t14 (by omega))); (try (have i_t13 := Imp.go t13 (by omega))); (try (have i_t5 := Imp.go t5 (by omega))); (try (have i_w3 := Imp.go w3 (by omega))); first | omega | ((try (have i_x3 := Imp.go x3 (by omega))); (try (have i_x3 := Imp.go x3 (by omega))); (try (have i_w3 := Imp.go w3 (by omega))); (try (have i_t5 := Imp.go t5 (by omega))); (try (have i_t13 := Imp.go t13 (by omega))); (try (have i_t14 := Imp.go t14 (by omega))); omega)))))) w2071 w2073 w95 w172 w2074 rfl rfl hdV_yX12_isSign ⟨Nat.le_of_ble_eq_true rfl, Nat.le_of_ble_eq_true rfl⟩ rfl hl.1 rfl (Nat.le_of_ble_eq_true rfl) dX12_isPart_32 ⟨Nat.le_of_ble_eq_true rfl, Nat.le_of_ble_eq_true rfl⟩) hP hD hK hS hA (fun z19 u20 H locs w21 hP hD hK hS => ?_)
        obtain ⟨rgz19, t22, t23⟩ := w21
        have rgz19 : 0 ≤ z19.toInt ∧ z19.toInt ≤ 1 := rgz19
        have t22 : Imp (z19.toInt = 1) ((V 0 8).toInt = 0 ∧ 0 ≤ (V 0 7).toInt ∧ (V 0 7).toInt < (n)) := t22
        have t23 : Imp (z19.toInt = 1) ((V 4 (Int32.toNatClampNeg (V 0 7))).toInt = 3) := t23
        refine lv_if_ne (tgt := 105) hx hb dX12_isPart_35 (by decide) (fun c24 => ?_) (fun c24 => ?_)
        · skip
          have f25 : z19.toInt ≠ 0 := b_neq rfl (by decide) c24
          refine lv_iconst (v := 1) hx hb dX12_isPart_105 (by decide) ?_
          refine lv_goto (tgt := 110) hx hb dX12_isPart_106 (by decide) ?_
          exact W.zret (v := 1) hx hb hr rfl (fun t ht hW => ⟨⟨1, (), rfl, ⟨(by decide), (Imp.mk (fun _ => (show (V 0 8).toInt = 0 ∧ 0 ≤ (V 0 7).toInt ∧ (V 0 7).toInt < n from by first | omega | ((try (have i_t23 := Imp.go t23 (by omega))); (try (have i_t22 := Imp.go t22 (by omega))); (try (have i_t14 := Imp.go t14 (by omega))); (try (have i_t13 := Imp.go t13 (by omega))); first | omega | ((try (have i_t5 := Imp.go t5 (by omega))); (try (have i_w3 := Imp.go w3 (by omega))); (try (have i_x3 := Imp.go x3 (by omega))); (try (have i_x3 := Imp.go x3 (by omega))); first | omega | ((try (have i_w3 := Imp.go w3 (by omega))); (try (have i_t5 := Imp.go t5 (by omega))); (try (have i_t13 := Imp.go t13 (by omega))); (try (have i_t14 := Imp.go t14 (by omega))); (try (have i_t22 := Imp.go t22 (by omega))); (try (have i_t23 := Imp.go t23 (by omega))); omega)))))), (Imp.mk (fun _ => Or.inr (fun q => by have q1 := q.1; first | omega | ((try (have i_t23 := Imp.go t23 (by omega))); (try (have i_t22 := Imp.go t22 (by omega))); (try (have i_t14 := Imp.go t14 (by omega))); (try (have i_t13 := Imp.go t13 (by omega))); first | omega | ((try (have i_t5 := Imp.go t5 (by omega))); (try (have i_w3 := Imp.go w3 (by omega))); (try (have i_x3 := Imp.go x3 (by omega))); (try (have i_x3 := Imp.go x3 (by omega))); first | omega | ((try (have i_w3 := Imp.go w3 (by omega))); (try (have i_t5 := Imp.go t5 (by omega))); (try (have i_t13 := Imp.go t13 (by omega))); (try (have i_t14 := Imp.go t14 (by omega))); (try (have i_t22 := Imp.go t22 (by omega))); (try (have i_t23 := Imp.go t23 (by omega))); omega)))))), (Imp.mk (fun _ => Or.inr (fun q => by have q1 := q.1; first | omega | ((try (have i_t23 := Imp.go t23 (by omega))); (try (have i_t22 := Imp.go t22 (by omega))); (try (have i_t14 := Imp.go t14 (by omega))); (try (have i_t13 := Imp.go t13 (by omega))); first | omega | ((try (have i_t5 := Imp.go t5 (by omega))); (try (have i_w3 := Imp.go w3 (by omega))); (try (have i_x3 := Imp.go x3 (by omega))); (try (have i_x3 := Imp.go x3 (by omega))); first | omega | ((try (have i_w3 := Imp.go w3 (by omega))); (try (have i_t5 := Imp.go t5 (by omega))); (try (have i_t13 := Imp.go t13 (by omega))); (try (have i_t14 := Imp.go t14 (by omega))); (try (have i_t22 := Imp.go t22 (by omega))); (try (have i_t23 := Imp.go t23 (by omega))); omega))))))⟩, by rw [ht]; exact hP, va_K.moved hW.alike hK, hD⟩, hS.F ht⟩) hS.2.2 dX12_isPart_110
        · skip
          have f26 : z19.toInt = 0 := b_eq rfl (by decide) c24
          refine lv_aload_n hx hb dX12_isPart_38 rfl (lv_at hl 0 rfl) ?_
          refine lv_bipush (v := 15) hx hb dX12_isPart_39 (by decide) ?_
          have r27 : Int32.toInt 15 = 15 := by decide
          refine gA_int (gA_runV (As := [.int 15]) (rest := []) (ci := 12) (q0 := 0) hx hb hml hown hg hP hD hK hS hA hnw hgk (s_isWord3 l D ks H.size ad kk V L 15 (n) hMV (by decide) (show (V 4 (n)).toInt = 0 from by first | omega | ((try (have i_t23 := Imp.go t23 (by omega))); (try (have i_t22 := Imp.go t22 (by omega))); (try (have i_t14 := Imp.go t14 (by omega))); (try (have i_t13 := Imp.go t13 (by omega))); first | omega | ((try (have i_t5 := Imp.go t5 (by omega))); (try (have i_w3 := Imp.go w3 (by omega))); (try (have i_x3 := Imp.go x3 (by omega))); (try (have i_x3 := Imp.go x3 (by omega))); first | omega | ((try (have i_w3 := Imp.go w3 (by omega))); (try (have i_t5 := Imp.go t5 (by omega))); (try (have i_t13 := Imp.go t13 (by omega))); (try (have i_t14 := Imp.go t14 (by omega))); (try (have i_t22 := Imp.go t22 (by omega))); (try (have i_t23 := Imp.go t23 (by omega))); omega)))) (show (n) ≤ 4000 from by first | omega | ((try (have i_t23 := Imp.go t23 (by omega))); (try (have i_t22 := Imp.go t22 (by omega))); (try (have i_t14 := Imp.go t14 (by omega))); (try (have i_t13 := Imp.go t13 (by omega))); first | omega | ((try (have i_t5 := Imp.go t5 (by omega))); (try (have i_w3 := Imp.go w3 (by omega))); (try (have i_x3 := Imp.go x3 (by omega))); (try (have i_x3 := Imp.go x3 (by omega))); first | omega | ((try (have i_w3 := Imp.go w3 (by omega))); (try (have i_t5 := Imp.go t5 (by omega))); (try (have i_t13 := Imp.go t13 (by omega))); (try (have i_t14 := Imp.go t14 (by omega))); (try (have i_t22 := Imp.go t22 (by omega))); (try (have i_t23 := Imp.go t23 (by omega))); omega)))) (Imp.mk (fun hp => have hp : (V 0 8).toInt = 0 := hp; (show 0 ≤ (V 0 7).toInt ∧ (V 0 7).toInt ≤ (n) from by first | omega | ((try (have i_t23 := Imp.go t23 (by omega))); (try (have i_t22 := Imp.go t22 (by omega))); (try (have i_t14 := Imp.go t14 (by omega))); (try (have i_t13 := Imp.go t13 (by omega))); first | omega | ((try (have i_t5 := Imp.go t5 (by omega))); (try (have i_w3 := Imp.go w3 (by omega))); (try (have i_x3 := Imp.go x3 (by omega))); (try (have i_x3 := Imp.go x3 (by omega))); first | omega | ((try (have i_w3 := Imp.go w3 (by omega))); (try (have i_t5 := Imp.go t5 (by omega))); (try (have i_t13 := Imp.go t13 (by omega))); (try (have i_t14 := Imp.go t14 (by omega))); (try (have i_t22 := Imp.go t22 (by omega))); (try (have i_t23 := Imp.go t23 (by omega))); omega))))))) w2023 w2025 w83 w172 w2026 rfl rfl hdV_yX12_isWord ⟨Nat.le_of_ble_eq_true rfl, Nat.le_of_ble_eq_true rfl⟩ rfl hl.1 rfl (Nat.le_of_ble_eq_true rfl) dX12_isPart_41 ⟨Nat.le_of_ble_eq_true rfl, Nat.le_of_ble_eq_true rfl⟩) hP hD hK hS hA (fun z28 u29 H locs w30 hP hD hK hS => ?_)
          obtain ⟨rgz28, t31, t32⟩ := w30
          have rgz28 : 0 ≤ z28.toInt ∧ z28.toInt ≤ 1 := rgz28
          have t31 : Imp (z28.toInt = 1) ((V 0 8).toInt = 0 ∧ 0 ≤ (V 0 7).toInt ∧ (V 0 7).toInt < (n)) := t31
          have t32 : Imp (z28.toInt = 1) (atW V L (Int32.toNatClampNeg 15)) := t32
          refine lv_if_ne (tgt := 105) hx hb dX12_isPart_44 (by decide) (fun c33 => ?_) (fun c33 => ?_)
          · skip
            have f34 : z28.toInt ≠ 0 := b_neq rfl (by decide) c33
            refine lv_iconst (v := 1) hx hb dX12_isPart_105 (by decide) ?_
            refine lv_goto (tgt := 110) hx hb dX12_isPart_106 (by decide) ?_
            exact W.zret (v := 1) hx hb hr rfl (fun t ht hW => ⟨⟨1, (), rfl, ⟨(by decide), (Imp.mk (fun _ => (show (V 0 8).toInt = 0 ∧ 0 ≤ (V 0 7).toInt ∧ (V 0 7).toInt < n from by first | omega | ((try (have i_t31 := Imp.go t31 (by omega))); (try (have i_t23 := Imp.go t23 (by omega))); (try (have i_t22 := Imp.go t22 (by omega))); (try (have i_t14 := Imp.go t14 (by omega))); first | omega | ((try (have i_t13 := Imp.go t13 (by omega))); (try (have i_t5 := Imp.go t5 (by omega))); (try (have i_w3 := Imp.go w3 (by omega))); (try (have i_x3 := Imp.go x3 (by omega))); first | omega | ((try (have i_x3 := Imp.go x3 (by omega))); (try (have i_w3 := Imp.go w3 (by omega))); (try (have i_t5 := Imp.go t5 (by omega))); (try (have i_t13 := Imp.go t13 (by omega))); (try (have i_t14 := Imp.go t14 (by omega))); (try (have i_t22 := Imp.go t22 (by omega))); (try (have i_t23 := Imp.go t23 (by omega))); (try (have i_t31 := Imp.go t31 (by omega))); omega)))))), (Imp.mk (fun _ => Or.inr (atW.ne w3 (j := 15) (Imp.go t32 (by first | omega | ((try (have i_t31 := Imp.go t31 (by omega))); (try (have i_t23 := Imp.go t23 (by omega))); (try (have i_t22 := Imp.go t22 (by omega))); (try (have i_t14 := Imp.go t14 (by omega))); first | omega | ((try (have i_t13 := Imp.go t13 (by omega))); (try (have i_t5 := Imp.go t5 (by omega))); (try (have i_w3 := Imp.go w3 (by omega))); (try (have i_x3 := Imp.go x3 (by omega))); first | omega | ((try (have i_x3 := Imp.go x3 (by omega))); (try (have i_w3 := Imp.go w3 (by omega))); (try (have i_t5 := Imp.go t5 (by omega))); (try (have i_t13 := Imp.go t13 (by omega))); (try (have i_t14 := Imp.go t14 (by omega))); (try (have i_t22 := Imp.go t22 (by omega))); (try (have i_t23 := Imp.go t23 (by omega))); (try (have i_t31 := Imp.go t31 (by omega))); omega))))) (by decide) (by decide) (by decide)))), (Imp.mk (fun _ => Or.inr (atW.ne w3 (j := 15) (Imp.go t32 (by first | omega | ((try (have i_t31 := Imp.go t31 (by omega))); (try (have i_t23 := Imp.go t23 (by omega))); (try (have i_t22 := Imp.go t22 (by omega))); (try (have i_t14 := Imp.go t14 (by omega))); first | omega | ((try (have i_t13 := Imp.go t13 (by omega))); (try (have i_t5 := Imp.go t5 (by omega))); (try (have i_w3 := Imp.go w3 (by omega))); (try (have i_x3 := Imp.go x3 (by omega))); first | omega | ((try (have i_x3 := Imp.go x3 (by omega))); (try (have i_w3 := Imp.go w3 (by omega))); (try (have i_t5 := Imp.go t5 (by omega))); (try (have i_t13 := Imp.go t13 (by omega))); (try (have i_t14 := Imp.go t14 (by omega))); (try (have i_t22 := Imp.go t22 (by omega))); (try (have i_t23 := Imp.go t23 (by omega))); (try (have i_t31 := Imp.go t31 (by omega))); omega))))) (by decide) (by decide) (by decide))))⟩, by rw [ht]; exact hP, va_K.moved hW.alike hK, hD⟩, hS.F ht⟩) hS.2.2 dX12_isPart_110
          · skip
            have f35 : z28.toInt = 0 := b_eq rfl (by decide) c33
            refine lv_aload_n hx hb dX12_isPart_47 rfl (lv_at hl 0 rfl) ?_
            refine lv_bipush (v := 16) hx hb dX12_isPart_48 (by decide) ?_
            have r36 : Int32.toInt 16 = 16 := by decide
            refine gA_int (gA_runV (As := [.int 16]) (rest := []) (ci := 12) (q0 := 0) hx hb hml hown hg hP hD hK hS hA hnw hgk (s_isWord3 l D ks H.size ad kk V L 16 (n) hMV (by decide) (show (V 4 (n)).toInt = 0 from by first | omega | ((try (have i_t31 := Imp.go t31 (by omega))); (try (have i_t23 := Imp.go t23 (by omega))); (try (have i_t22 := Imp.go t22 (by omega))); (try (have i_t14 := Imp.go t14 (by omega))); first | omega | ((try (have i_t13 := Imp.go t13 (by omega))); (try (have i_t5 := Imp.go t5 (by omega))); (try (have i_w3 := Imp.go w3 (by omega))); (try (have i_x3 := Imp.go x3 (by omega))); first | omega | ((try (have i_x3 := Imp.go x3 (by omega))); (try (have i_w3 := Imp.go w3 (by omega))); (try (have i_t5 := Imp.go t5 (by omega))); (try (have i_t13 := Imp.go t13 (by omega))); (try (have i_t14 := Imp.go t14 (by omega))); (try (have i_t22 := Imp.go t22 (by omega))); (try (have i_t23 := Imp.go t23 (by omega))); (try (have i_t31 := Imp.go t31 (by omega))); omega)))) (show (n) ≤ 4000 from by first | omega | ((try (have i_t31 := Imp.go t31 (by omega))); (try (have i_t23 := Imp.go t23 (by omega))); (try (have i_t22 := Imp.go t22 (by omega))); (try (have i_t14 := Imp.go t14 (by omega))); first | omega | ((try (have i_t13 := Imp.go t13 (by omega))); (try (have i_t5 := Imp.go t5 (by omega))); (try (have i_w3 := Imp.go w3 (by omega))); (try (have i_x3 := Imp.go x3 (by omega))); first | omega | ((try (have i_x3 := Imp.go x3 (by omega))); (try (have i_w3 := Imp.go w3 (by omega))); (try (have i_t5 := Imp.go t5 (by omega))); (try (have i_t13 := Imp.go t13 (by omega))); (try (have i_t14 := Imp.go t14 (by omega))); (try (have i_t22 := Imp.go t22 (by omega))); (try (have i_t23 := Imp.go t23 (by omega))); (try (have i_t31 := Imp.go t31 (by omega))); omega)))) (Imp.mk (fun hp => have hp : (V 0 8).toInt = 0 := hp; (show 0 ≤ (V 0 7).toInt ∧ (V 0 7).toInt ≤ (n) from by first | omega | ((try (have i_t31 := Imp.go t31 (by omega))); (try (have i_t23 := Imp.go t23 (by omega))); (try (have i_t22 := Imp.go t22 (by omega))); (try (have i_t14 := Imp.go t14 (by omega))); first | omega | ((try (have i_t13 := Imp.go t13 (by omega))); (try (have i_t5 := Imp.go t5 (by omega))); (try (have i_w3 := Imp.go w3 (by omega))); (try (have i_x3 := Imp.go x3 (by omega))); first | omega | ((try (have i_x3 := Imp.go x3 (by omega))); (try (have i_w3 := Imp.go w3 (by omega))); (try (have i_t5 := Imp.go t5 (by omega))); (try (have i_t13 := Imp.go t13 (by omega))); (try (have i_t14 := Imp.go t14 (by omega))); (try (have i_t22 := Imp.go t22 (by omega))); (try (have i_t23 := Imp.go t23 (by omega))); (try (have i_t31 := Imp.go t31 (by omega))); omega))))))) w2023 w2025 w83 w172 w2026 rfl rfl hdV_yX12_isWord ⟨Nat.le_of_ble_eq_true rfl, Nat.le_of_ble_eq_true rfl⟩ rfl hl.1 rfl (Nat.le_of_ble_eq_true rfl) dX12_isPart_50 ⟨Nat.le_of_ble_eq_true rfl, Nat.le_of_ble_eq_true rfl⟩) hP hD hK hS hA (fun z37 u38 H locs w39 hP hD hK hS => ?_)
            obtain ⟨rgz37, t40, t41⟩ := w39
            have rgz37 : 0 ≤ z37.toInt ∧ z37.toInt ≤ 1 := rgz37
            have t40 : Imp (z37.toInt = 1) ((V 0 8).toInt = 0 ∧ 0 ≤ (V 0 7).toInt ∧ (V 0 7).toInt < (n)) := t40
            have t41 : Imp (z37.toInt = 1) (atW V L (Int32.toNatClampNeg 16)) := t41
            refine lv_if_ne (tgt := 105) hx hb dX12_isPart_53 (by decide) (fun c42 => ?_) (fun c42 => ?_)
            · skip
              have f43 : z37.toInt ≠ 0 := b_neq rfl (by decide) c42
              refine lv_iconst (v := 1) hx hb dX12_isPart_105 (by decide) ?_
              refine lv_goto (tgt := 110) hx hb dX12_isPart_106 (by decide) ?_
              exact W.zret (v := 1) hx hb hr rfl (fun t ht hW => ⟨⟨1, (), rfl, ⟨(by decide), (Imp.mk (fun _ => (show (V 0 8).toInt = 0 ∧ 0 ≤ (V 0 7).toInt ∧ (V 0 7).toInt < n from by first | omega | ((try (have i_t40 := Imp.go t40 (by omega))); (try (have i_t31 := Imp.go t31 (by omega))); (try (have i_t23 := Imp.go t23 (by omega))); (try (have i_t22 := Imp.go t22 (by omega))); first | omega | ((try (have i_t14 := Imp.go t14 (by omega))); (try (have i_t13 := Imp.go t13 (by omega))); (try (have i_t5 := Imp.go t5 (by omega))); (try (have i_w3 := Imp.go w3 (by omega))); first | omega | ((try (have i_x3 := Imp.go x3 (by omega))); (try (have i_x3 := Imp.go x3 (by omega))); (try (have i_w3 := Imp.go w3 (by omega))); (try (have i_t5 := Imp.go t5 (by omega))); (try (have i_t13 := Imp.go t13 (by omega))); (try (have i_t14 := Imp.go t14 (by omega))); (try (have i_t22 := Imp.go t22 (by omega))); (try (have i_t23 := Imp.go t23 (by omega))); (try (have i_t31 := Imp.go t31 (by omega))); (try (have i_t40 := Imp.go t40 (by omega))); omega)))))), (Imp.mk (fun _ => Or.inr (atW.ne w3 (j := 16) (Imp.go t41 (by first | omega | ((try (have i_t40 := Imp.go t40 (by omega))); (try (have i_t31 := Imp.go t31 (by omega))); (try (have i_t23 := Imp.go t23 (by omega))); (try (have i_t22 := Imp.go t22 (by omega))); first | omega | ((try (have i_t14 := Imp.go t14 (by omega))); (try (have i_t13 := Imp.go t13 (by omega))); (try (have i_t5 := Imp.go t5 (by omega))); (try (have i_w3 := Imp.go w3 (by omega))); first | omega | ((try (have i_x3 := Imp.go x3 (by omega))); (try (have i_x3 := Imp.go x3 (by omega))); (try (have i_w3 := Imp.go w3 (by omega))); (try (have i_t5 := Imp.go t5 (by omega))); (try (have i_t13 := Imp.go t13 (by omega))); (try (have i_t14 := Imp.go t14 (by omega))); (try (have i_t22 := Imp.go t22 (by omega))); (try (have i_t23 := Imp.go t23 (by omega))); (try (have i_t31 := Imp.go t31 (by omega))); (try (have i_t40 := Imp.go t40 (by omega))); omega))))) (by decide) (by decide) (by decide)))), (Imp.mk (fun _ => Or.inr (atW.ne w3 (j := 16) (Imp.go t41 (by first | omega | ((try (have i_t40 := Imp.go t40 (by omega))); (try (have i_t31 := Imp.go t31 (by omega))); (try (have i_t23 := Imp.go t23 (by omega))); (try (have i_t22 := Imp.go t22 (by omega))); first | omega | ((try (have i_t14 := Imp.go t14 (by omega))); (try (have i_t13 := Imp.go t13 (by omega))); (try (have i_t5 := Imp.go t5 (by omega))); (try (have i_w3 := Imp.go w3 (by omega))); first | omega | ((try (have i_x3 := Imp.go x3 (by omega))); (try (have i_x3 := Imp.go x3 (by omega))); (try (have i_w3 := Imp.go w3 (by omega))); (try (have i_t5 := Imp.go t5 (by omega))); (try (have i_t13 := Imp.go t13 (by omega))); (try (have i_t14 := Imp.go t14 (by omega))); (try (have i_t22 := Imp.go t22 (by omega))); (try (have i_t23 := Imp.go t23 (by omega))); (try (have i_t31 := Imp.go t31 (by omega))); (try (have i_t40 := Imp.go t40 (by omega))); omega))))) (by decide) (by decide) (by decide))))⟩, by rw [ht]; exact hP, va_K.moved hW.alike hK, hD⟩, hS.F ht⟩) hS.2.2 dX12_isPart_110
            · skip
              have f44 : z37.toInt = 0 := b_eq rfl (by decide) c42
              refine lv_aload_n hx hb dX12_isPart_56 rfl (lv_at hl 0 rfl) ?_
              refine lv_iconst (v := 2) hx hb dX12_isPart_57 (by decide) ?_
              have r45 : Int32.toInt 2 = 2 := by decide
              refine gA_int (gA_runV (As := [.int 2]) (rest := []) (ci := 12) (q0 := 0) hx hb hml hown hg hP hD hK hS hA hnw hgk (s_isWord3 l D ks H.size ad kk V L 2 (n) hMV (by decide) (show (V 4 (n)).toInt = 0 from by first | omega | ((try (have i_t40 := Imp.go t40 (by omega))); (try (have i_t31 := Imp.go t31 (by omega))); (try (have i_t23 := Imp.go t23 (by omega))); (try (have i_t22 := Imp.go t22 (by omega))); first | omega | ((try (have i_t14 := Imp.go t14 (by omega))); (try (have i_t13 := Imp.go t13 (by omega))); (try (have i_t5 := Imp.go t5 (by omega))); (try (have i_w3 := Imp.go w3 (by omega))); first | omega | ((try (have i_x3 := Imp.go x3 (by omega))); (try (have i_x3 := Imp.go x3 (by omega))); (try (have i_w3 := Imp.go w3 (by omega))); (try (have i_t5 := Imp.go t5 (by omega))); (try (have i_t13 := Imp.go t13 (by omega))); (try (have i_t14 := Imp.go t14 (by omega))); (try (have i_t22 := Imp.go t22 (by omega))); (try (have i_t23 := Imp.go t23 (by omega))); (try (have i_t31 := Imp.go t31 (by omega))); (try (have i_t40 := Imp.go t40 (by omega))); omega)))) (show (n) ≤ 4000 from by first | omega | ((try (have i_t40 := Imp.go t40 (by omega))); (try (have i_t31 := Imp.go t31 (by omega))); (try (have i_t23 := Imp.go t23 (by omega))); (try (have i_t22 := Imp.go t22 (by omega))); first | omega | ((try (have i_t14 := Imp.go t14 (by omega))); (try (have i_t13 := Imp.go t13 (by omega))); (try (have i_t5 := Imp.go t5 (by omega))); (try (have i_w3 := Imp.go w3 (by omega))); first | omega | ((try (have i_x3 := Imp.go x3 (by omega))); (try (have i_x3 := Imp.go x3 (by omega))); (try (have i_w3 := Imp.go w3 (by omega))); (try (have i_t5 := Imp.go t5 (by omega))); (try (have i_t13 := Imp.go t13 (by omega))); (try (have i_t14 := Imp.go t14 (by omega))); (try (have i_t22 := Imp.go t22 (by omega))); (try (have i_t23 := Imp.go t23 (by omega))); (try (have i_t31 := Imp.go t31 (by omega))); (try (have i_t40 := Imp.go t40 (by omega))); omega)))) (Imp.mk (fun hp => have hp : (V 0 8).toInt = 0 := hp; (show 0 ≤ (V 0 7).toInt ∧ (V 0 7).toInt ≤ (n) from by first | omega | ((try (have i_t40 := Imp.go t40 (by omega))); (try (have i_t31 := Imp.go t31 (by omega))); (try (have i_t23 := Imp.go t23 (by omega))); (try (have i_t22 := Imp.go t22 (by omega))); first | omega | ((try (have i_t14 := Imp.go t14 (by omega))); (try (have i_t13 := Imp.go t13 (by omega))); (try (have i_t5 := Imp.go t5 (by omega))); (try (have i_w3 := Imp.go w3 (by omega))); first | omega | ((try (have i_x3 := Imp.go x3 (by omega))); (try (have i_x3 := Imp.go x3 (by omega))); (try (have i_w3 := Imp.go w3 (by omega))); (try (have i_t5 := Imp.go t5 (by omega))); (try (have i_t13 := Imp.go t13 (by omega))); (try (have i_t14 := Imp.go t14 (by omega))); (try (have i_t22 := Imp.go t22 (by omega))); (try (have i_t23 := Imp.go t23 (by omega))); (try (have i_t31 := Imp.go t31 (by omega))); (try (have i_t40 := Imp.go t40 (by omega))); omega))))))) w2023 w2025 w83 w172 w2026 rfl rfl hdV_yX12_isWord ⟨Nat.le_of_ble_eq_true rfl, Nat.le_of_ble_eq_true rfl⟩ rfl hl.1 rfl (Nat.le_of_ble_eq_true rfl) dX12_isPart_58 ⟨Nat.le_of_ble_eq_true rfl, Nat.le_of_ble_eq_true rfl⟩) hP hD hK hS hA (fun z46 u47 H locs w48 hP hD hK hS => ?_)
              obtain ⟨rgz46, t49, t50⟩ := w48
              have rgz46 : 0 ≤ z46.toInt ∧ z46.toInt ≤ 1 := rgz46
              have t49 : Imp (z46.toInt = 1) ((V 0 8).toInt = 0 ∧ 0 ≤ (V 0 7).toInt ∧ (V 0 7).toInt < (n)) := t49
              have t50 : Imp (z46.toInt = 1) (atW V L (Int32.toNatClampNeg 2)) := t50
              refine lv_if_ne (tgt := 105) hx hb dX12_isPart_61 (by decide) (fun c51 => ?_) (fun c51 => ?_)
              · skip
                have f52 : z46.toInt ≠ 0 := b_neq rfl (by decide) c51
                refine lv_iconst (v := 1) hx hb dX12_isPart_105 (by decide) ?_
                refine lv_goto (tgt := 110) hx hb dX12_isPart_106 (by decide) ?_
                exact W.zret (v := 1) hx hb hr rfl (fun t ht hW => ⟨⟨1, (), rfl, ⟨(by decide), (Imp.mk (fun _ => (show (V 0 8).toInt = 0 ∧ 0 ≤ (V 0 7).toInt ∧ (V 0 7).toInt < n from by first | omega | ((try (have i_t49 := Imp.go t49 (by omega))); (try (have i_t40 := Imp.go t40 (by omega))); (try (have i_t31 := Imp.go t31 (by omega))); (try (have i_t23 := Imp.go t23 (by omega))); first | omega | ((try (have i_t22 := Imp.go t22 (by omega))); (try (have i_t14 := Imp.go t14 (by omega))); (try (have i_t13 := Imp.go t13 (by omega))); (try (have i_t5 := Imp.go t5 (by omega))); first | omega | ((try (have i_w3 := Imp.go w3 (by omega))); (try (have i_x3 := Imp.go x3 (by omega))); (try (have i_x3 := Imp.go x3 (by omega))); (try (have i_w3 := Imp.go w3 (by omega))); (try (have i_t5 := Imp.go t5 (by omega))); (try (have i_t13 := Imp.go t13 (by omega))); (try (have i_t14 := Imp.go t14 (by omega))); (try (have i_t22 := Imp.go t22 (by omega))); first | omega | ((try (have i_t23 := Imp.go t23 (by omega))); (try (have i_t31 := Imp.go t31 (by omega))); (try (have i_t40 := Imp.go t40 (by omega))); (try (have i_t49 := Imp.go t49 (by omega))); omega))))))), (Imp.mk (fun _ => Or.inr (atW.ne w3 (j := 2) (Imp.go t50 (by first | omega | ((try (have i_t49 := Imp.go t49 (by omega))); (try (have i_t40 := Imp.go t40 (by omega))); (try (have i_t31 := Imp.go t31 (by omega))); (try (have i_t23 := Imp.go t23 (by omega))); first | omega | ((try (have i_t22 := Imp.go t22 (by omega))); (try (have i_t14 := Imp.go t14 (by omega))); (try (have i_t13 := Imp.go t13 (by omega))); (try (have i_t5 := Imp.go t5 (by omega))); first | omega | ((try (have i_w3 := Imp.go w3 (by omega))); (try (have i_x3 := Imp.go x3 (by omega))); (try (have i_x3 := Imp.go x3 (by omega))); (try (have i_w3 := Imp.go w3 (by omega))); (try (have i_t5 := Imp.go t5 (by omega))); (try (have i_t13 := Imp.go t13 (by omega))); (try (have i_t14 := Imp.go t14 (by omega))); (try (have i_t22 := Imp.go t22 (by omega))); first | omega | ((try (have i_t23 := Imp.go t23 (by omega))); (try (have i_t31 := Imp.go t31 (by omega))); (try (have i_t40 := Imp.go t40 (by omega))); (try (have i_t49 := Imp.go t49 (by omega))); omega)))))) (by decide) (by decide) (by decide)))), (Imp.mk (fun _ => Or.inr (atW.ne w3 (j := 2) (Imp.go t50 (by first | omega | ((try (have i_t49 := Imp.go t49 (by omega))); (try (have i_t40 := Imp.go t40 (by omega))); (try (have i_t31 := Imp.go t31 (by omega))); (try (have i_t23 := Imp.go t23 (by omega))); first | omega | ((try (have i_t22 := Imp.go t22 (by omega))); (try (have i_t14 := Imp.go t14 (by omega))); (try (have i_t13 := Imp.go t13 (by omega))); (try (have i_t5 := Imp.go t5 (by omega))); first | omega | ((try (have i_w3 := Imp.go w3 (by omega))); (try (have i_x3 := Imp.go x3 (by omega))); (try (have i_x3 := Imp.go x3 (by omega))); (try (have i_w3 := Imp.go w3 (by omega))); (try (have i_t5 := Imp.go t5 (by omega))); (try (have i_t13 := Imp.go t13 (by omega))); (try (have i_t14 := Imp.go t14 (by omega))); (try (have i_t22 := Imp.go t22 (by omega))); first | omega | ((try (have i_t23 := Imp.go t23 (by omega))); (try (have i_t31 := Imp.go t31 (by omega))); (try (have i_t40 := Imp.go t40 (by omega))); (try (have i_t49 := Imp.go t49 (by omega))); omega)))))) (by decide) (by decide) (by decide))))⟩, by rw [ht]; exact hP, va_K.moved hW.alike hK, hD⟩, hS.F ht⟩) hS.2.2 dX12_isPart_110
              · skip
                have f53 : z46.toInt = 0 := b_eq rfl (by decide) c51
                refine lv_aload_n hx hb dX12_isPart_64 rfl (lv_at hl 0 rfl) ?_
                refine lv_bipush (v := 17) hx hb dX12_isPart_65 (by decide) ?_
                have r54 : Int32.toInt 17 = 17 := by decide
                refine gA_int (gA_runV (As := [.int 17]) (rest := []) (ci := 12) (q0 := 0) hx hb hml hown hg hP hD hK hS hA hnw hgk (s_isWord3 l D ks H.size ad kk V L 17 (n) hMV (by decide) (show (V 4 (n)).toInt = 0 from by first | omega | ((try (have i_t49 := Imp.go t49 (by omega))); (try (have i_t40 := Imp.go t40 (by omega))); (try (have i_t31 := Imp.go t31 (by omega))); (try (have i_t23 := Imp.go t23 (by omega))); first | omega | ((try (have i_t22 := Imp.go t22 (by omega))); (try (have i_t14 := Imp.go t14 (by omega))); (try (have i_t13 := Imp.go t13 (by omega))); (try (have i_t5 := Imp.go t5 (by omega))); first | omega | ((try (have i_w3 := Imp.go w3 (by omega))); (try (have i_x3 := Imp.go x3 (by omega))); (try (have i_x3 := Imp.go x3 (by omega))); (try (have i_w3 := Imp.go w3 (by omega))); (try (have i_t5 := Imp.go t5 (by omega))); (try (have i_t13 := Imp.go t13 (by omega))); (try (have i_t14 := Imp.go t14 (by omega))); (try (have i_t22 := Imp.go t22 (by omega))); first | omega | ((try (have i_t23 := Imp.go t23 (by omega))); (try (have i_t31 := Imp.go t31 (by omega))); (try (have i_t40 := Imp.go t40 (by omega))); (try (have i_t49 := Imp.go t49 (by omega))); omega))))) (show (n) ≤ 4000 from by first | omega | ((try (have i_t49 := Imp.go t49 (by omega))); (try (have i_t40 := Imp.go t40 (by omega))); (try (have i_t31 := Imp.go t31 (by omega))); (try (have i_t23 := Imp.go t23 (by omega))); first | omega | ((try (have i_t22 := Imp.go t22 (by omega))); (try (have i_t14 := Imp.go t14 (by omega))); (try (have i_t13 := Imp.go t13 (by omega))); (try (have i_t5 := Imp.go t5 (by omega))); first | omega | ((try (have i_w3 := Imp.go w3 (by omega))); (try (have i_x3 := Imp.go x3 (by omega))); (try (have i_x3 := Imp.go x3 (by omega))); (try (have i_w3 := Imp.go w3 (by omega))); (try (have i_t5 := Imp.go t5 (by omega))); (try (have i_t13 := Imp.go t13 (by omega))); (try (have i_t14 := Imp.go t14 (by omega))); (try (have i_t22 := Imp.go t22 (by omega))); first | omega | ((try (have i_t23 := Imp.go t23 (by omega))); (try (have i_t31 := Imp.go t31 (by omega))); (try (have i_t40 := Imp.go t40 (by omega))); (try (have i_t49 := Imp.go t49 (by omega))); omega))))) (Imp.mk (fun hp => have hp : (V 0 8).toInt = 0 := hp; (show 0 ≤ (V 0 7).toInt ∧ (V 0 7).toInt ≤ (n) from by first | omega | ((try (have i_t49 := Imp.go t49 (by omega))); (try (have i_t40 := Imp.go t40 (by omega))); (try (have i_t31 := Imp.go t31 (by omega))); (try (have i_t23 := Imp.go t23 (by omega))); first | omega | ((try (have i_t22 := Imp.go t22 (by omega))); (try (have i_t14 := Imp.go t14 (by omega))); (try (have i_t13 := Imp.go t13 (by omega))); (try (have i_t5 := Imp.go t5 (by omega))); first | omega | ((try (have i_w3 := Imp.go w3 (by omega))); (try (have i_x3 := Imp.go x3 (by omega))); (try (have i_x3 := Imp.go x3 (by omega))); (try (have i_w3 := Imp.go w3 (by omega))); (try (have i_t5 := Imp.go t5 (by omega))); (try (have i_t13 := Imp.go t13 (by omega))); (try (have i_t14 := Imp.go t14 (by omega))); (try (have i_t22 := Imp.go t22 (by omega))); first | omega | ((try (have i_t23 := Imp.go t23 (by omega))); (try (have i_t31 := Imp.go t31 (by omega))); (try (have i_t40 := Imp.go t40 (by omega))); (try (have i_t49 := Imp.go t49 (by omega))); omega)))))))) w2023 w2025 w83 w172 w2026 rfl rfl hdV_yX12_isWord ⟨Nat.le_of_ble_eq_true rfl, Nat.le_of_ble_eq_true rfl⟩ rfl hl.1 rfl (Nat.le_of_ble_eq_true rfl) dX12_isPart_67 ⟨Nat.le_of_ble_eq_true rfl, Nat.le_of_ble_eq_true rfl⟩) hP hD hK hS hA (fun z55 u56 H locs w57 hP hD hK hS => ?_)
                obtain ⟨rgz55, t58, t59⟩ := w57
                have rgz55 : 0 ≤ z55.toInt ∧ z55.toInt ≤ 1 := rgz55
                have t58 : Imp (z55.toInt = 1) ((V 0 8).toInt = 0 ∧ 0 ≤ (V 0 7).toInt ∧ (V 0 7).toInt < (n)) := t58
                have t59 : Imp (z55.toInt = 1) (atW V L (Int32.toNatClampNeg 17)) := t59
                refine lv_if_ne (tgt := 105) hx hb dX12_isPart_70 (by decide) (fun c60 => ?_) (fun c60 => ?_)
                · skip
                  have f61 : z55.toInt ≠ 0 := b_neq rfl (by decide) c60
                  refine lv_iconst (v := 1) hx hb dX12_isPart_105 (by decide) ?_
                  refine lv_goto (tgt := 110) hx hb dX12_isPart_106 (by decide) ?_
                  exact W.zret (v := 1) hx hb hr rfl (fun t ht hW => ⟨⟨1, (), rfl, ⟨(by decide), (Imp.mk (fun _ => (show (V 0 8).toInt = 0 ∧ 0 ≤ (V 0 7).toInt ∧ (V 0 7).toInt < n from by first | omega | ((try (have i_t58 := Imp.go t58 (by omega))); (try (have i_t49 := Imp.go t49 (by omega))); (try (have i_t40 := Imp.go t40 (by omega))); (try (have i_t31 := Imp.go t31 (by omega))); first | omega | ((try (have i_t23 := Imp.go t23 (by omega))); (try (have i_t22 := Imp.go t22 (by omega))); (try (have i_t14 := Imp.go t14 (by omega))); (try (have i_t13 := Imp.go t13 (by omega))); first | omega | ((try (have i_t5 := Imp.go t5 (by omega))); (try (have i_w3 := Imp.go w3 (by omega))); (try (have i_x3 := Imp.go x3 (by omega))); (try (have i_x3 := Imp.go x3 (by omega))); (try (have i_w3 := Imp.go w3 (by omega))); (try (have i_t5 := Imp.go t5 (by omega))); (try (have i_t13 := Imp.go t13 (by omega))); (try (have i_t14 := Imp.go t14 (by omega))); first | omega | ((try (have i_t22 := Imp.go t22 (by omega))); (try (have i_t23 := Imp.go t23 (by omega))); (try (have i_t31 := Imp.go t31 (by omega))); (try (have i_t40 := Imp.go t40 (by omega))); (try (have i_t49 := Imp.go t49 (by omega))); (try (have i_t58 := Imp.go t58 (by omega))); omega))))))), (Imp.mk (fun _ => Or.inr (atW.ne w3 (j := 17) (Imp.go t59 (by first | omega | ((try (have i_t58 := Imp.go t58 (by omega))); (try (have i_t49 := Imp.go t49 (by omega))); (try (have i_t40 := Imp.go t40 (by omega))); (try (have i_t31 := Imp.go t31 (by omega))); first | omega | ((try (have i_t23 := Imp.go t23 (by omega))); (try (have i_t22 := Imp.go t22 (by omega))); (try (have i_t14 := Imp.go t14 (by omega))); (try (have i_t13 := Imp.go t13 (by omega))); first | omega | ((try (have i_t5 := Imp.go t5 (by omega))); (try (have i_w3 := Imp.go w3 (by omega))); (try (have i_x3 := Imp.go x3 (by omega))); (try (have i_x3 := Imp.go x3 (by omega))); (try (have i_w3 := Imp.go w3 (by omega))); (try (have i_t5 := Imp.go t5 (by omega))); (try (have i_t13 := Imp.go t13 (by omega))); (try (have i_t14 := Imp.go t14 (by omega))); first | omega | ((try (have i_t22 := Imp.go t22 (by omega))); (try (have i_t23 := Imp.go t23 (by omega))); (try (have i_t31 := Imp.go t31 (by omega))); (try (have i_t40 := Imp.go t40 (by omega))); (try (have i_t49 := Imp.go t49 (by omega))); (try (have i_t58 := Imp.go t58 (by omega))); omega)))))) (by decide) (by decide) (by decide)))), (Imp.mk (fun _ => Or.inr (atW.ne w3 (j := 17) (Imp.go t59 (by first | omega | ((try (have i_t58 := Imp.go t58 (by omega))); (try (have i_t49 := Imp.go t49 (by omega))); (try (have i_t40 := Imp.go t40 (by omega))); (try (have i_t31 := Imp.go t31 (by omega))); first | omega | ((try (have i_t23 := Imp.go t23 (by omega))); (try (have i_t22 := Imp.go t22 (by omega))); (try (have i_t14 := Imp.go t14 (by omega))); (try (have i_t13 := Imp.go t13 (by omega))); first | omega | ((try (have i_t5 := Imp.go t5 (by omega))); (try (have i_w3 := Imp.go w3 (by omega))); (try (have i_x3 := Imp.go x3 (by omega))); (try (have i_x3 := Imp.go x3 (by omega))); (try (have i_w3 := Imp.go w3 (by omega))); (try (have i_t5 := Imp.go t5 (by omega))); (try (have i_t13 := Imp.go t13 (by omega))); (try (have i_t14 := Imp.go t14 (by omega))); first | omega | ((try (have i_t22 := Imp.go t22 (by omega))); (try (have i_t23 := Imp.go t23 (by omega))); (try (have i_t31 := Imp.go t31 (by omega))); (try (have i_t40 := Imp.go t40 (by omega))); (try (have i_t49 := Imp.go t49 (by omega))); (try (have i_t58 := Imp.go t58 (by omega))); omega)))))) (by decide) (by decide) (by decide))))⟩, by rw [ht]; exact hP, va_K.moved hW.alike hK, hD⟩, hS.F ht⟩) hS.2.2 dX12_isPart_110
                · skip
                  have f62 : z55.toInt = 0 := b_eq rfl (by decide) c60
                  refine lv_aload_n hx hb dX12_isPart_73 rfl (lv_at hl 0 rfl) ?_
                  refine lv_bipush (v := 18) hx hb dX12_isPart_74 (by decide) ?_
                  have r63 : Int32.toInt 18 = 18 := by decide
                  refine gA_int (gA_runV (As := [.int 18]) (rest := []) (ci := 12) (q0 := 0) hx hb hml hown hg hP hD hK hS hA hnw hgk (s_isWord3 l D ks H.size ad kk V L 18 (n) hMV (by decide) (show (V 4 (n)).toInt = 0 from by first | omega | ((try (have i_t58 := Imp.go t58 (by omega))); (try (have i_t49 := Imp.go t49 (by omega))); (try (have i_t40 := Imp.go t40 (by omega))); (try (have i_t31 := Imp.go t31 (by omega))); first | omega | ((try (have i_t23 := Imp.go t23 (by omega))); (try (have i_t22 := Imp.go t22 (by omega))); (try (have i_t14 := Imp.go t14 (by omega))); (try (have i_t13 := Imp.go t13 (by omega))); first | omega | ((try (have i_t5 := Imp.go t5 (by omega))); (try (have i_w3 := Imp.go w3 (by omega))); (try (have i_x3 := Imp.go x3 (by omega))); (try (have i_x3 := Imp.go x3 (by omega))); (try (have i_w3 := Imp.go w3 (by omega))); (try (have i_t5 := Imp.go t5 (by omega))); (try (have i_t13 := Imp.go t13 (by omega))); (try (have i_t14 := Imp.go t14 (by omega))); first | omega | ((try (have i_t22 := Imp.go t22 (by omega))); (try (have i_t23 := Imp.go t23 (by omega))); (try (have i_t31 := Imp.go t31 (by omega))); (try (have i_t40 := Imp.go t40 (by omega))); (try (have i_t49 := Imp.go t49 (by omega))); (try (have i_t58 := Imp.go t58 (by omega))); omega))))) (show (n) ≤ 4000 from by first | omega | ((try (have i_t58 := Imp.go t58 (by omega))); (try (have i_t49 := Imp.go t49 (by omega))); (try (have i_t40 := Imp.go t40 (by omega))); (try (have i_t31 := Imp.go t31 (by omega))); first | omega | ((try (have i_t23 := Imp.go t23 (by omega))); (try (have i_t22 := Imp.go t22 (by omega))); (try (have i_t14 := Imp.go t14 (by omega))); (try (have i_t13 := Imp.go t13 (by omega))); first | omega | ((try (have i_t5 := Imp.go t5 (by omega))); (try (have i_w3 := Imp.go w3 (by omega))); (try (have i_x3 := Imp.go x3 (by omega))); (try (have i_x3 := Imp.go x3 (by omega))); (try (have i_w3 := Imp.go w3 (by omega))); (try (have i_t5 := Imp.go t5 (by omega))); (try (have i_t13 := Imp.go t13 (by omega))); (try (have i_t14 := Imp.go t14 (by omega))); first | omega | ((try (have i_t22 := Imp.go t22 (by omega))); (try (have i_t23 := Imp.go t23 (by omega))); (try (have i_t31 := Imp.go t31 (by omega))); (try (have i_t40 := Imp.go t40 (by omega))); (try (have i_t49 := Imp.go t49 (by omega))); (try (have i_t58 := Imp.go t58 (by omega))); omega))))) (Imp.mk (fun hp => have hp : (V 0 8).toInt = 0 := hp; (show 0 ≤ (V 0 7).toInt ∧ (V 0 7).toInt ≤ (n) from by first | omega | ((try (have i_t58 := Imp.go t58 (by omega))); (try (have i_t49 := Imp.go t49 (by omega))); (try (have i_t40 := Imp.go t40 (by omega))); (try (have i_t31 := Imp.go t31 (by omega))); first | omega | ((try (have i_t23 := Imp.go t23 (by omega))); (try (have i_t22 := Imp.go t22 (by omega))); (try (have i_t14 := Imp.go t14 (by omega))); (try (have i_t13 := Imp.go t13 (by omega))); first | omega | ((try (have i_t5 := Imp.go t5 (by omega))); (try (have i_w3 := Imp.go w3 (by omega))); (try (have i_x3 := Imp.go x3 (by omega))); (try (have i_x3 := Imp.go x3 (by omega))); (try (have i_w3 := Imp.go w3 (by omega))); (try (have i_t5 := Imp.go t5 (by omega))); (try (have i_t13 := Imp.go t13 (by omega))); (try (have i_t14 := Imp.go t14 (by omega))); first | omega | ((try (have i_t22 := Imp.go t22 (by omega))); (try (have i_t23 := Imp.go t23 (by omega))); (try (have i_t31 := Imp.go t31 (by omega))); (try (have i_t40 := Imp.go t40 (by omega))); (try (have i_t49 := Imp.go t49 (by omega))); (try (have i_t58 := Imp.go t58 (by omega))); omega)))))))) w2023 w2025 w83 w172 w2026 rfl rfl hdV_yX12_isWord ⟨Nat.le_of_ble_eq_true rfl, Nat.le_of_ble_eq_true rfl⟩ rfl hl.1 rfl (Nat.le_of_ble_eq_true rfl) dX12_isPart_76 ⟨Nat.le_of_ble_eq_true rfl, Nat.le_of_ble_eq_true rfl⟩) hP hD hK hS hA (fun z64 u65 H locs w66 hP hD hK hS => ?_)
                  obtain ⟨rgz64, t67, t68⟩ := w66
                  have rgz64 : 0 ≤ z64.toInt ∧ z64.toInt ≤ 1 := rgz64
                  have t67 : Imp (z64.toInt = 1) ((V 0 8).toInt = 0 ∧ 0 ≤ (V 0 7).toInt ∧ (V 0 7).toInt < (n)) := t67
                  have t68 : Imp (z64.toInt = 1) (atW V L (Int32.toNatClampNeg 18)) := t68
                  refine lv_if_eq (tgt := 89) hx hb dX12_isPart_79 (by decide) (fun c69 => ?_) (fun c69 => ?_)
                  · skip
                    have f70 : z64.toInt = 0 := b_eq rfl (by decide) c69
                    refine lv_aload_n hx hb dX12_isPart_89 rfl (lv_at hl 0 rfl) ?_
                    refine lv_bipush (v := 19) hx hb dX12_isPart_90 (by decide) ?_
                    have r71 : Int32.toInt 19 = 19 := by decide
                    refine gA_int (gA_runV (As := [.int 19]) (rest := []) (ci := 12) (q0 := 0) hx hb hml hown hg hP hD hK hS hA hnw hgk (s_isWord3 l D ks H.size ad kk V L 19 (n) hMV (by decide) (show (V 4 (n)).toInt = 0 from by first | omega | ((try (have i_t67 := Imp.go t67 (by omega))); (try (have i_t58 := Imp.go t58 (by omega))); (try (have i_t49 := Imp.go t49 (by omega))); (try (have i_t40 := Imp.go t40 (by omega))); first | omega | ((try (have i_t31 := Imp.go t31 (by omega))); (try (have i_t23 := Imp.go t23 (by omega))); (try (have i_t22 := Imp.go t22 (by omega))); (try (have i_t14 := Imp.go t14 (by omega))); first | omega | ((try (have i_t13 := Imp.go t13 (by omega))); (try (have i_t5 := Imp.go t5 (by omega))); (try (have i_w3 := Imp.go w3 (by omega))); (try (have i_x3 := Imp.go x3 (by omega))); (try (have i_x3 := Imp.go x3 (by omega))); (try (have i_w3 := Imp.go w3 (by omega))); (try (have i_t5 := Imp.go t5 (by omega))); (try (have i_t13 := Imp.go t13 (by omega))); first | omega | ((try (have i_t14 := Imp.go t14 (by omega))); (try (have i_t22 := Imp.go t22 (by omega))); (try (have i_t23 := Imp.go t23 (by omega))); (try (have i_t31 := Imp.go t31 (by omega))); (try (have i_t40 := Imp.go t40 (by omega))); (try (have i_t49 := Imp.go t49 (by omega))); (try (have i_t58 := Imp.go t58 (by omega))); (try (have i_t67 := Imp.go t67 (by omega))); omega))))) (show (n) ≤ 4000 from by first | omega | ((try (have i_t67 := Imp.go t67 (by omega))); (try (have i_t58 := Imp.go t58 (by omega))); (try (have i_t49 := Imp.go t49 (by omega))); (try (have i_t40 := Imp.go t40 (by omega))); first | omega | ((try (have i_t31 := Imp.go t31 (by omega))); (try (have i_t23 := Imp.go t23 (by omega))); (try (have i_t22 := Imp.go t22 (by omega))); (try (have i_t14 := Imp.go t14 (by omega))); first | omega | ((try (have i_t13 := Imp.go t13 (by omega))); (try (have i_t5 := Imp.go t5 (by omega))); (try (have i_w3 := Imp.go w3 (by omega))); (try (have i_x3 := Imp.go x3 (by omega))); (try (have i_x3 := Imp.go x3 (by omega))); (try (have i_w3 := Imp.go w3 (by omega))); (try (have i_t5 := Imp.go t5 (by omega))); (try (have i_t13 := Imp.go t13 (by omega))); first | omega | ((try (have i_t14 := Imp.go t14 (by omega))); (try (have i_t22 := Imp.go t22 (by omega))); (try (have i_t23 := Imp.go t23 (by omega))); (try (have i_t31 := Imp.go t31 (by omega))); (try (have i_t40 := Imp.go t40 (by omega))); (try (have i_t49 := Imp.go t49 (by omega))); (try (have i_t58 := Imp.go t58 (by omega))); (try (have i_t67 := Imp.go t67 (by omega))); omega))))) (Imp.mk (fun hp => have hp : (V 0 8).toInt = 0 := hp; (show 0 ≤ (V 0 7).toInt ∧ (V 0 7).toInt ≤ (n) from by first | omega | ((try (have i_t67 := Imp.go t67 (by omega))); (try (have i_t58 := Imp.go t58 (by omega))); (try (have i_t49 := Imp.go t49 (by omega))); (try (have i_t40 := Imp.go t40 (by omega))); first | omega | ((try (have i_t31 := Imp.go t31 (by omega))); (try (have i_t23 := Imp.go t23 (by omega))); (try (have i_t22 := Imp.go t22 (by omega))); (try (have i_t14 := Imp.go t14 (by omega))); first | omega | ((try (have i_t13 := Imp.go t13 (by omega))); (try (have i_t5 := Imp.go t5 (by omega))); (try (have i_w3 := Imp.go w3 (by omega))); (try (have i_x3 := Imp.go x3 (by omega))); (try (have i_x3 := Imp.go x3 (by omega))); (try (have i_w3 := Imp.go w3 (by omega))); (try (have i_t5 := Imp.go t5 (by omega))); (try (have i_t13 := Imp.go t13 (by omega))); first | omega | ((try (have i_t14 := Imp.go t14 (by omega))); (try (have i_t22 := Imp.go t22 (by omega))); (try (have i_t23 := Imp.go t23 (by omega))); (try (have i_t31 := Imp.go t31 (by omega))); (try (have i_t40 := Imp.go t40 (by omega))); (try (have i_t49 := Imp.go t49 (by omega))); (try (have i_t58 := Imp.go t58 (by omega))); (try (have i_t67 := Imp.go t67 (by omega))); omega)))))))) w2023 w2025 w83 w172 w2026 rfl rfl hdV_yX12_isWord ⟨Nat.le_of_ble_eq_true rfl, Nat.le_of_ble_eq_true rfl⟩ rfl hl.1 rfl (Nat.le_of_ble_eq_true rfl) dX12_isPart_92 ⟨Nat.le_of_ble_eq_true rfl, Nat.le_of_ble_eq_true rfl⟩) hP hD hK hS hA (fun z72 u73 H locs w74 hP hD hK hS => ?_)
                    obtain ⟨rgz72, t75, t76⟩ := w74
                    have rgz72 : 0 ≤ z72.toInt ∧ z72.toInt ≤ 1 := rgz72
                    have t75 : Imp (z72.toInt = 1) ((V 0 8).toInt = 0 ∧ 0 ≤ (V 0 7).toInt ∧ (V 0 7).toInt < (n)) := t75
                    have t76 : Imp (z72.toInt = 1) (atW V L (Int32.toNatClampNeg 19)) := t76
                    refine lv_if_eq (tgt := 109) hx hb dX12_isPart_95 (by decide) (fun c77 => ?_) (fun c77 => ?_)
                    · skip
                      have f78 : z72.toInt = 0 := b_eq rfl (by decide) c77
                      refine lv_iconst (v := 0) hx hb dX12_isPart_109 (by decide) ?_
                      exact W.zret (v := 0) hx hb hr rfl (fun t ht hW => ⟨⟨0, (), rfl, ⟨(by decide), (Imp.mk (fun hp => absurd hp (by decide))), (Imp.mk (fun hp => absurd hp (by decide))), (Imp.mk (fun hp => absurd hp (by decide)))⟩, by rw [ht]; exact hP, va_K.moved hW.alike hK, hD⟩, hS.F ht⟩) hS.2.2 dX12_isPart_110
                    · skip
                      have f79 : z72.toInt ≠ 0 := b_neq rfl (by decide) c77
                      refine lv_aload_n hx hb dX12_isPart_98 rfl (lv_at hl 0 rfl) ?_
                      refine va_get (D := D) (ci := 12) (v := .int (V 0 52)) (C := RX12) (T := TX12) (N := 100) hx hb hg inX12 hown hK hP 0 rfl rfl 52 (by decide) (hg _ w1758) (fun _ h9 => h9) rfl dX12_isPart_99 ?_
                      have r80 : 0 ≤ ((V 0 52)).toInt ∧ ((V 0 52)).toInt ≤ 1 := hMV 0 52
                      refine lv_if_eq (tgt := 109) hx hb dX12_isPart_102 (by decide) (fun c81 => ?_) (fun c81 => ?_)
                      · skip
                        have f82 : ((V 0 52)).toInt = 0 := b_eq rfl (by decide) c81
                        refine lv_iconst (v := 0) hx hb dX12_isPart_109 (by decide) ?_
                        exact W.zret (v := 0) hx hb hr rfl (fun t ht hW => ⟨⟨0, (), rfl, ⟨(by decide), (Imp.mk (fun hp => absurd hp (by decide))), (Imp.mk (fun hp => absurd hp (by decide))), (Imp.mk (fun hp => absurd hp (by decide)))⟩, by rw [ht]; exact hP, va_K.moved hW.alike hK, hD⟩, hS.F ht⟩) hS.2.2 dX12_isPart_110
                      · skip
                        have f83 : ((V 0 52)).toInt ≠ 0 := b_neq rfl (by decide) c81
                        refine lv_iconst (v := 1) hx hb dX12_isPart_105 (by decide) ?_
                        refine lv_goto (tgt := 110) hx hb dX12_isPart_106 (by decide) ?_
                        exact W.zret (v := 1) hx hb hr rfl (fun t ht hW => ⟨⟨1, (), rfl, ⟨(by decide), (Imp.mk (fun _ => (show (V 0 8).toInt = 0 ∧ 0 ≤ (V 0 7).toInt ∧ (V 0 7).toInt < n from by first | omega | ((try (have i_t75 := Imp.go t75 (by omega))); (try (have i_t67 := Imp.go t67 (by omega))); (try (have i_t58 := Imp.go t58 (by omega))); (try (have i_t49 := Imp.go t49 (by omega))); first | omega | ((try (have i_t40 := Imp.go t40 (by omega))); (try (have i_t31 := Imp.go t31 (by omega))); (try (have i_t23 := Imp.go t23 (by omega))); (try (have i_t22 := Imp.go t22 (by omega))); first | omega | ((try (have i_t14 := Imp.go t14 (by omega))); (try (have i_t13 := Imp.go t13 (by omega))); (try (have i_t5 := Imp.go t5 (by omega))); (try (have i_w3 := Imp.go w3 (by omega))); (try (have i_x3 := Imp.go x3 (by omega))); (try (have i_x3 := Imp.go x3 (by omega))); (try (have i_w3 := Imp.go w3 (by omega))); (try (have i_t5 := Imp.go t5 (by omega))); first | omega | ((try (have i_t13 := Imp.go t13 (by omega))); (try (have i_t14 := Imp.go t14 (by omega))); (try (have i_t22 := Imp.go t22 (by omega))); (try (have i_t23 := Imp.go t23 (by omega))); (try (have i_t31 := Imp.go t31 (by omega))); (try (have i_t40 := Imp.go t40 (by omega))); (try (have i_t49 := Imp.go t49 (by omega))); (try (have i_t58 := Imp.go t58 (by omega))); (try (have i_t67 := Imp.go t67 (by omega))); (try (have i_t75 := Imp.go t75 (by omega))); omega))))))), (Imp.mk (fun _ => Or.inr (atW.ne w3 (j := 19) (Imp.go t76 (by first | omega | ((try (have i_t75 := Imp.go t75 (by omega))); (try (have i_t67 := Imp.go t67 (by omega))); (try (have i_t58 := Imp.go t58 (by omega))); (try (have i_t49 := Imp.go t49 (by omega))); first | omega | ((try (have i_t40 := Imp.go t40 (by omega))); (try (have i_t31 := Imp.go t31 (by omega))); (try (have i_t23 := Imp.go t23 (by omega))); (try (have i_t22 := Imp.go t22 (by omega))); first | omega | ((try (have i_t14 := Imp.go t14 (by omega))); (try (have i_t13 := Imp.go t13 (by omega))); (try (have i_t5 := Imp.go t5 (by omega))); (try (have i_w3 := Imp.go w3 (by omega))); (try (have i_x3 := Imp.go x3 (by omega))); (try (have i_x3 := Imp.go x3 (by omega))); (try (have i_w3 := Imp.go w3 (by omega))); (try (have i_t5 := Imp.go t5 (by omega))); first | omega | ((try (have i_t13 := Imp.go t13 (by omega))); (try (have i_t14 := Imp.go t14 (by omega))); (try (have i_t22 := Imp.go t22 (by omega))); (try (have i_t23 := Imp.go t23 (by omega))); (try (have i_t31 := Imp.go t31 (by omega))); (try (have i_t40 := Imp.go t40 (by omega))); (try (have i_t49 := Imp.go t49 (by omega))); (try (have i_t58 := Imp.go t58 (by omega))); (try (have i_t67 := Imp.go t67 (by omega))); (try (have i_t75 := Imp.go t75 (by omega))); omega)))))) (by decide) (by decide) (by decide)))), (Imp.mk (fun _ => Or.inl (by first | omega | ((try (have i_t75 := Imp.go t75 (by omega))); (try (have i_t67 := Imp.go t67 (by omega))); (try (have i_t58 := Imp.go t58 (by omega))); (try (have i_t49 := Imp.go t49 (by omega))); first | omega | ((try (have i_t40 := Imp.go t40 (by omega))); (try (have i_t31 := Imp.go t31 (by omega))); (try (have i_t23 := Imp.go t23 (by omega))); (try (have i_t22 := Imp.go t22 (by omega))); first | omega | ((try (have i_t14 := Imp.go t14 (by omega))); (try (have i_t13 := Imp.go t13 (by omega))); (try (have i_t5 := Imp.go t5 (by omega))); (try (have i_w3 := Imp.go w3 (by omega))); (try (have i_x3 := Imp.go x3 (by omega))); (try (have i_x3 := Imp.go x3 (by omega))); (try (have i_w3 := Imp.go w3 (by omega))); (try (have i_t5 := Imp.go t5 (by omega))); first | omega | ((try (have i_t13 := Imp.go t13 (by omega))); (try (have i_t14 := Imp.go t14 (by omega))); (try (have i_t22 := Imp.go t22 (by omega))); (try (have i_t23 := Imp.go t23 (by omega))); (try (have i_t31 := Imp.go t31 (by omega))); (try (have i_t40 := Imp.go t40 (by omega))); (try (have i_t49 := Imp.go t49 (by omega))); (try (have i_t58 := Imp.go t58 (by omega))); (try (have i_t67 := Imp.go t67 (by omega))); (try (have i_t75 := Imp.go t75 (by omega))); omega)))))))⟩, by rw [ht]; exact hP, va_K.moved hW.alike hK, hD⟩, hS.F ht⟩) hS.2.2 dX12_isPart_110
                  · skip
                    have f84 : z64.toInt ≠ 0 := b_neq rfl (by decide) c69
                    refine lv_aload_n hx hb dX12_isPart_82 rfl (lv_at hl 0 rfl) ?_
                    refine va_get (D := D) (ci := 12) (v := .int (V 0 51)) (C := RX12) (T := TX12) (N := 100) hx hb hg inX12 hown hK hP 0 rfl rfl 51 (by decide) (hg _ w1757) (fun _ h9 => h9) rfl dX12_isPart_83 ?_
                    have r85 : (-1) ≤ ((V 0 51)).toInt ∧ ((V 0 51)).toInt ≤ 47 := hMV 0 51
                    refine lv_if_ge (tgt := 105) hx hb dX12_isPart_86 (by decide) (fun c86 => ?_) (fun c86 => ?_)
                    · skip
                      have f87 : 0 ≤ ((V 0 51)).toInt := b_le (by decide) rfl c86
                      refine lv_iconst (v := 1) hx hb dX12_isPart_105 (by decide) ?_
                      refine lv_goto (tgt := 110) hx hb dX12_isPart_106 (by decide) ?_
                      exact W.zret (v := 1) hx hb hr rfl (fun t ht hW => ⟨⟨1, (), rfl, ⟨(by decide), (Imp.mk (fun _ => (show (V 0 8).toInt = 0 ∧ 0 ≤ (V 0 7).toInt ∧ (V 0 7).toInt < n from by first | omega | ((try (have i_t67 := Imp.go t67 (by omega))); (try (have i_t58 := Imp.go t58 (by omega))); (try (have i_t49 := Imp.go t49 (by omega))); (try (have i_t40 := Imp.go t40 (by omega))); first | omega | ((try (have i_t31 := Imp.go t31 (by omega))); (try (have i_t23 := Imp.go t23 (by omega))); (try (have i_t22 := Imp.go t22 (by omega))); (try (have i_t14 := Imp.go t14 (by omega))); first | omega | ((try (have i_t13 := Imp.go t13 (by omega))); (try (have i_t5 := Imp.go t5 (by omega))); (try (have i_w3 := Imp.go w3 (by omega))); (try (have i_x3 := Imp.go x3 (by omega))); (try (have i_x3 := Imp.go x3 (by omega))); (try (have i_w3 := Imp.go w3 (by omega))); (try (have i_t5 := Imp.go t5 (by omega))); (try (have i_t13 := Imp.go t13 (by omega))); first | omega | ((try (have i_t14 := Imp.go t14 (by omega))); (try (have i_t22 := Imp.go t22 (by omega))); (try (have i_t23 := Imp.go t23 (by omega))); (try (have i_t31 := Imp.go t31 (by omega))); (try (have i_t40 := Imp.go t40 (by omega))); (try (have i_t49 := Imp.go t49 (by omega))); (try (have i_t58 := Imp.go t58 (by omega))); (try (have i_t67 := Imp.go t67 (by omega))); omega))))))), (Imp.mk (fun _ => Or.inl (by first | omega | ((try (have i_t67 := Imp.go t67 (by omega))); (try (have i_t58 := Imp.go t58 (by omega))); (try (have i_t49 := Imp.go t49 (by omega))); (try (have i_t40 := Imp.go t40 (by omega))); first | omega | ((try (have i_t31 := Imp.go t31 (by omega))); (try (have i_t23 := Imp.go t23 (by omega))); (try (have i_t22 := Imp.go t22 (by omega))); (try (have i_t14 := Imp.go t14 (by omega))); first | omega | ((try (have i_t13 := Imp.go t13 (by omega))); (try (have i_t5 := Imp.go t5 (by omega))); (try (have i_w3 := Imp.go w3 (by omega))); (try (have i_x3 := Imp.go x3 (by omega))); (try (have i_x3 := Imp.go x3 (by omega))); (try (have i_w3 := Imp.go w3 (by omega))); (try (have i_t5 := Imp.go t5 (by omega))); (try (have i_t13 := Imp.go t13 (by omega))); first | omega | ((try (have i_t14 := Imp.go t14 (by omega))); (try (have i_t22 := Imp.go t22 (by omega))); (try (have i_t23 := Imp.go t23 (by omega))); (try (have i_t31 := Imp.go t31 (by omega))); (try (have i_t40 := Imp.go t40 (by omega))); (try (have i_t49 := Imp.go t49 (by omega))); (try (have i_t58 := Imp.go t58 (by omega))); (try (have i_t67 := Imp.go t67 (by omega))); omega))))))), (Imp.mk (fun _ => Or.inr (atW.ne w3 (j := 18) (Imp.go t68 (by first | omega | ((try (have i_t67 := Imp.go t67 (by omega))); (try (have i_t58 := Imp.go t58 (by omega))); (try (have i_t49 := Imp.go t49 (by omega))); (try (have i_t40 := Imp.go t40 (by omega))); first | omega | ((try (have i_t31 := Imp.go t31 (by omega))); (try (have i_t23 := Imp.go t23 (by omega))); (try (have i_t22 := Imp.go t22 (by omega))); (try (have i_t14 := Imp.go t14 (by omega))); first | omega | ((try (have i_t13 := Imp.go t13 (by omega))); (try (have i_t5 := Imp.go t5 (by omega))); (try (have i_w3 := Imp.go w3 (by omega))); (try (have i_x3 := Imp.go x3 (by omega))); (try (have i_x3 := Imp.go x3 (by omega))); (try (have i_w3 := Imp.go w3 (by omega))); (try (have i_t5 := Imp.go t5 (by omega))); (try (have i_t13 := Imp.go t13 (by omega))); first | omega | ((try (have i_t14 := Imp.go t14 (by omega))); (try (have i_t22 := Imp.go t22 (by omega))); (try (have i_t23 := Imp.go t23 (by omega))); (try (have i_t31 := Imp.go t31 (by omega))); (try (have i_t40 := Imp.go t40 (by omega))); (try (have i_t49 := Imp.go t49 (by omega))); (try (have i_t58 := Imp.go t58 (by omega))); (try (have i_t67 := Imp.go t67 (by omega))); omega)))))) (by decide) (by decide) (by decide))))⟩, by rw [ht]; exact hP, va_K.moved hW.alike hK, hD⟩, hS.F ht⟩) hS.2.2 dX12_isPart_110
                    · skip
                      have f88 : ((V 0 51)).toInt < 0 := b_nle (by decide) rfl c86
                      refine lv_aload_n hx hb dX12_isPart_89 rfl (lv_at hl 0 rfl) ?_
                      refine lv_bipush (v := 19) hx hb dX12_isPart_90 (by decide) ?_
                      have r89 : Int32.toInt 19 = 19 := by decide
                      refine gA_int (gA_runV (As := [.int 19]) (rest := []) (ci := 12) (q0 := 0) hx hb hml hown hg hP hD hK hS hA hnw hgk (s_isWord3 l D ks H.size ad kk V L 19 (n) hMV (by decide) (show (V 4 (n)).toInt = 0 from by first | omega | ((try (have i_t67 := Imp.go t67 (by omega))); (try (have i_t58 := Imp.go t58 (by omega))); (try (have i_t49 := Imp.go t49 (by omega))); (try (have i_t40 := Imp.go t40 (by omega))); first | omega | ((try (have i_t31 := Imp.go t31 (by omega))); (try (have i_t23 := Imp.go t23 (by omega))); (try (have i_t22 := Imp.go t22 (by omega))); (try (have i_t14 := Imp.go t14 (by omega))); first | omega | ((try (have i_t13 := Imp.go t13 (by omega))); (try (have i_t5 := Imp.go t5 (by omega))); (try (have i_w3 := Imp.go w3 (by omega))); (try (have i_x3 := Imp.go x3 (by omega))); (try (have i_x3 := Imp.go x3 (by omega))); (try (have i_w3 := Imp.go w3 (by omega))); (try (have i_t5 := Imp.go t5 (by omega))); (try (have i_t13 := Imp.go t13 (by omega))); first | omega | ((try (have i_t14 := Imp.go t14 (by omega))); (try (have i_t22 := Imp.go t22 (by omega))); (try (have i_t23 := Imp.go t23 (by omega))); (try (have i_t31 := Imp.go t31 (by omega))); (try (have i_t40 := Imp.go t40 (by omega))); (try (have i_t49 := Imp.go t49 (by omega))); (try (have i_t58 := Imp.go t58 (by omega))); (try (have i_t67 := Imp.go t67 (by omega))); omega))))) (show (n) ≤ 4000 from by first | omega | ((try (have i_t67 := Imp.go t67 (by omega))); (try (have i_t58 := Imp.go t58 (by omega))); (try (have i_t49 := Imp.go t49 (by omega))); (try (have i_t40 := Imp.go t40 (by omega))); first | omega | ((try (have i_t31 := Imp.go t31 (by omega))); (try (have i_t23 := Imp.go t23 (by omega))); (try (have i_t22 := Imp.go t22 (by omega))); (try (have i_t14 := Imp.go t14 (by omega))); first | omega | ((try (have i_t13 := Imp.go t13 (by omega))); (try (have i_t5 := Imp.go t5 (by omega))); (try (have i_w3 := Imp.go w3 (by omega))); (try (have i_x3 := Imp.go x3 (by omega))); (try (have i_x3 := Imp.go x3 (by omega))); (try (have i_w3 := Imp.go w3 (by omega))); (try (have i_t5 := Imp.go t5 (by omega))); (try (have i_t13 := Imp.go t13 (by omega))); first | omega | ((try (have i_t14 := Imp.go t14 (by omega))); (try (have i_t22 := Imp.go t22 (by omega))); (try (have i_t23 := Imp.go t23 (by omega))); (try (have i_t31 := Imp.go t31 (by omega))); (try (have i_t40 := Imp.go t40 (by omega))); (try (have i_t49 := Imp.go t49 (by omega))); (try (have i_t58 := Imp.go t58 (by omega))); (try (have i_t67 := Imp.go t67 (by omega))); omega))))) (Imp.mk (fun hp => have hp : (V 0 8).toInt = 0 := hp; (show 0 ≤ (V 0 7).toInt ∧ (V 0 7).toInt ≤ (n) from by first | omega | ((try (have i_t67 := Imp.go t67 (by omega))); (try (have i_t58 := Imp.go t58 (by omega))); (try (have i_t49 := Imp.go t49 (by omega))); (try (have i_t40 := Imp.go t40 (by omega))); first | omega | ((try (have i_t31 := Imp.go t31 (by omega))); (try (have i_t23 := Imp.go t23 (by omega))); (try (have i_t22 := Imp.go t22 (by omega))); (try (have i_t14 := Imp.go t14 (by omega))); first | omega | ((try (have i_t13 := Imp.go t13 (by omega))); (try (have i_t5 := Imp.go t5 (by omega))); (try (have i_w3 := Imp.go w3 (by omega))); (try (have i_x3 := Imp.go x3 (by omega))); (try (have i_x3 := Imp.go x3 (by omega))); (try (have i_w3 := Imp.go w3 (by omega))); (try (have i_t5 := Imp.go t5 (by omega))); (try (have i_t13 := Imp.go t13 (by omega))); first | omega | ((try (have i_t14 := Imp.go t14 (by omega))); (try (have i_t22 := Imp.go t22 (by omega))); (try (have i_t23 := Imp.go t23 (by omega))); (try (have i_t31 := Imp.go t31 (by omega))); (try (have i_t40 := Imp.go t40 (by omega))); (try (have i_t49 := Imp.go t49 (by omega))); (try (have i_t58 := Imp.go t58 (by omega))); (try (have i_t67 := Imp.go t67 (by omega))); omega)))))))) w2023 w2025 w83 w172 w2026 rfl rfl hdV_yX12_isWord ⟨Nat.le_of_ble_eq_true rfl, Nat.le_of_ble_eq_true rfl⟩ rfl hl.1 rfl (Nat.le_of_ble_eq_true rfl) dX12_isPart_92 ⟨Nat.le_of_ble_eq_true rfl, Nat.le_of_ble_eq_true rfl⟩) hP hD hK hS hA (fun z90 u91 H locs w92 hP hD hK hS => ?_)
                      obtain ⟨rgz90, t93, t94⟩ := w92
                      have rgz90 : 0 ≤ z90.toInt ∧ z90.toInt ≤ 1 := rgz90
                      have t93 : Imp (z90.toInt = 1) ((V 0 8).toInt = 0 ∧ 0 ≤ (V 0 7).toInt ∧ (V 0 7).toInt < (n)) := t93
                      have t94 : Imp (z90.toInt = 1) (atW V L (Int32.toNatClampNeg 19)) := t94
                      refine lv_if_eq (tgt := 109) hx hb dX12_isPart_95 (by decide) (fun c95 => ?_) (fun c95 => ?_)
                      · skip
                        have f96 : z90.toInt = 0 := b_eq rfl (by decide) c95
                        refine lv_iconst (v := 0) hx hb dX12_isPart_109 (by decide) ?_
                        exact W.zret (v := 0) hx hb hr rfl (fun t ht hW => ⟨⟨0, (), rfl, ⟨(by decide), (Imp.mk (fun hp => absurd hp (by decide))), (Imp.mk (fun hp => absurd hp (by decide))), (Imp.mk (fun hp => absurd hp (by decide)))⟩, by rw [ht]; exact hP, va_K.moved hW.alike hK, hD⟩, hS.F ht⟩) hS.2.2 dX12_isPart_110
                      · skip
                        have f97 : z90.toInt ≠ 0 := b_neq rfl (by decide) c95
                        refine lv_aload_n hx hb dX12_isPart_98 rfl (lv_at hl 0 rfl) ?_
                        refine va_get (D := D) (ci := 12) (v := .int (V 0 52)) (C := RX12) (T := TX12) (N := 100) hx hb hg inX12 hown hK hP 0 rfl rfl 52 (by decide) (hg _ w1758) (fun _ h9 => h9) rfl dX12_isPart_99 ?_
                        have r98 : 0 ≤ ((V 0 52)).toInt ∧ ((V 0 52)).toInt ≤ 1 := hMV 0 52
                        refine lv_if_eq (tgt := 109) hx hb dX12_isPart_102 (by decide) (fun c99 => ?_) (fun c99 => ?_)
                        · skip
                          have f100 : ((V 0 52)).toInt = 0 := b_eq rfl (by decide) c99
                          refine lv_iconst (v := 0) hx hb dX12_isPart_109 (by decide) ?_
                          exact W.zret (v := 0) hx hb hr rfl (fun t ht hW => ⟨⟨0, (), rfl, ⟨(by decide), (Imp.mk (fun hp => absurd hp (by decide))), (Imp.mk (fun hp => absurd hp (by decide))), (Imp.mk (fun hp => absurd hp (by decide)))⟩, by rw [ht]; exact hP, va_K.moved hW.alike hK, hD⟩, hS.F ht⟩) hS.2.2 dX12_isPart_110
                        · skip
                          have f101 : ((V 0 52)).toInt ≠ 0 := b_neq rfl (by decide) c99
                          refine lv_iconst (v := 1) hx hb dX12_isPart_105 (by decide) ?_
                          refine lv_goto (tgt := 110) hx hb dX12_isPart_106 (by decide) ?_
                          exact W.zret (v := 1) hx hb hr rfl (fun t ht hW => ⟨⟨1, (), rfl, ⟨(by decide), (Imp.mk (fun _ => (show (V 0 8).toInt = 0 ∧ 0 ≤ (V 0 7).toInt ∧ (V 0 7).toInt < n from by first | omega | ((try (have i_t93 := Imp.go t93 (by omega))); (try (have i_t67 := Imp.go t67 (by omega))); (try (have i_t58 := Imp.go t58 (by omega))); (try (have i_t49 := Imp.go t49 (by omega))); first | omega | ((try (have i_t40 := Imp.go t40 (by omega))); (try (have i_t31 := Imp.go t31 (by omega))); (try (have i_t23 := Imp.go t23 (by omega))); (try (have i_t22 := Imp.go t22 (by omega))); first | omega | ((try (have i_t14 := Imp.go t14 (by omega))); (try (have i_t13 := Imp.go t13 (by omega))); (try (have i_t5 := Imp.go t5 (by omega))); (try (have i_w3 := Imp.go w3 (by omega))); (try (have i_x3 := Imp.go x3 (by omega))); (try (have i_x3 := Imp.go x3 (by omega))); (try (have i_w3 := Imp.go w3 (by omega))); (try (have i_t5 := Imp.go t5 (by omega))); first | omega | ((try (have i_t13 := Imp.go t13 (by omega))); (try (have i_t14 := Imp.go t14 (by omega))); (try (have i_t22 := Imp.go t22 (by omega))); (try (have i_t23 := Imp.go t23 (by omega))); (try (have i_t31 := Imp.go t31 (by omega))); (try (have i_t40 := Imp.go t40 (by omega))); (try (have i_t49 := Imp.go t49 (by omega))); (try (have i_t58 := Imp.go t58 (by omega))); (try (have i_t67 := Imp.go t67 (by omega))); (try (have i_t93 := Imp.go t93 (by omega))); omega))))))), (Imp.mk (fun _ => Or.inr (atW.ne w3 (j := 19) (Imp.go t94 (by first | omega | ((try (have i_t93 := Imp.go t93 (by omega))); (try (have i_t67 := Imp.go t67 (by omega))); (try (have i_t58 := Imp.go t58 (by omega))); (try (have i_t49 := Imp.go t49 (by omega))); first | omega | ((try (have i_t40 := Imp.go t40 (by omega))); (try (have i_t31 := Imp.go t31 (by omega))); (try (have i_t23 := Imp.go t23 (by omega))); (try (have i_t22 := Imp.go t22 (by omega))); first | omega | ((try (have i_t14 := Imp.go t14 (by omega))); (try (have i_t13 := Imp.go t13 (by omega))); (try (have i_t5 := Imp.go t5 (by omega))); (try (have i_w3 := Imp.go w3 (by omega))); (try (have i_x3 := Imp.go x3 (by omega))); (try (have i_x3 := Imp.go x3 (by omega))); (try (have i_w3 := Imp.go w3 (by omega))); (try (have i_t5 := Imp.go t5 (by omega))); first | omega | ((try (have i_t13 := Imp.go t13 (by omega))); (try (have i_t14 := Imp.go t14 (by omega))); (try (have i_t22 := Imp.go t22 (by omega))); (try (have i_t23 := Imp.go t23 (by omega))); (try (have i_t31 := Imp.go t31 (by omega))); (try (have i_t40 := Imp.go t40 (by omega))); (try (have i_t49 := Imp.go t49 (by omega))); (try (have i_t58 := Imp.go t58 (by omega))); (try (have i_t67 := Imp.go t67 (by omega))); (try (have i_t93 := Imp.go t93 (by omega))); omega)))))) (by decide) (by decide) (by decide)))), (Imp.mk (fun _ => Or.inl (by first | omega | ((try (have i_t93 := Imp.go t93 (by omega))); (try (have i_t67 := Imp.go t67 (by omega))); (try (have i_t58 := Imp.go t58 (by omega))); (try (have i_t49 := Imp.go t49 (by omega))); first | omega | ((try (have i_t40 := Imp.go t40 (by omega))); (try (have i_t31 := Imp.go t31 (by omega))); (try (have i_t23 := Imp.go t23 (by omega))); (try (have i_t22 := Imp.go t22 (by omega))); first | omega | ((try (have i_t14 := Imp.go t14 (by omega))); (try (have i_t13 := Imp.go t13 (by omega))); (try (have i_t5 := Imp.go t5 (by omega))); (try (have i_w3 := Imp.go w3 (by omega))); (try (have i_x3 := Imp.go x3 (by omega))); (try (have i_x3 := Imp.go x3 (by omega))); (try (have i_w3 := Imp.go w3 (by omega))); (try (have i_t5 := Imp.go t5 (by omega))); first | omega | ((try (have i_t13 := Imp.go t13 (by omega))); (try (have i_t14 := Imp.go t14 (by omega))); (try (have i_t22 := Imp.go t22 (by omega))); (try (have i_t23 := Imp.go t23 (by omega))); (try (have i_t31 := Imp.go t31 (by omega))); (try (have i_t40 := Imp.go t40 (by omega))); (try (have i_t49 := Imp.go t49 (by omega))); (try (have i_t58 := Imp.go t58 (by omega))); (try (have i_t67 := Imp.go t67 (by omega))); (try (have i_t93 := Imp.go t93 (by omega))); omega)))))))⟩, by rw [ht]; exact hP, va_K.moved hW.alike hK, hD⟩, hS.F ht⟩) hS.2.2 dX12_isPart_110
abbrev r_s_emit3 : Room := { frames := 0, cells := 0, slots := 0, locals := 0 }
abbrev q_s_emit3 (D : va_G) (ks : KS) (ad : Nat → Nat) (kk : Nat → ClassId) (V : Vf) (L : Lf) (p0 : Int32) (p1 : Int32) (p2 : Int32) (A : Nat → Prop) : Array Value → State → Outcome → State → Prop := va_Qi (fun (r : Int32) (u : Vf × Lf) => rgd bM u.1 ∧ agr [(0, 48)] [45, 46, 47] V u.1 ∧ u.2 = L ∧ (0 ≤ r.toInt ∧ r.toInt ≤ 20000) ∧ ((u.1 0 48).toInt = (V 0 48).toInt + 1) ∧ (r.toInt = (V 0 49).toInt + (V 0 48).toInt) ∧ (emitted V u.1 (pA V) p0 p1 p2)) (fun u t => gq D A (mw ad kk ks.1 u.1 u.2) (mty kk) t) A
set_option maxHeartbeats 4000000 in
set_option maxRecDepth 100000 in
theorem s_emit3 (l : Launch) (D : va_G) (ks : KS) (sz : Nat) (ad : Nat → Nat) (kk : Nat → ClassId) (V : Vf) (L : Lf) (p0 : Int32) (p1 : Int32) (p2 : Int32) (hMV : rgd bM V) (y1 : (V 0 48).toInt ≤ 9999)  : Met l yX12_emit (Cond.code yX12_emit cX12_emit 4 (some .int) :: GW) r_s_emit3 (va_Pc [.ref (ad 0), .int p0, .int p1, .int p2] (gp D ks (mw ad kk ks.1 V L) (mty kk) sz)) (q_s_emit3 D ks ad kk V L p0 p1 p2 (va_A (mw ad kk ks.1 V L) sz)) 0 0 (va_A (mw ad kk ks.1 V L) sz) := by
  refine g_met (q_s_emit3 D ks ad kk V L p0 p1 p2) (by decide) (Nat.le_of_ble_eq_true rfl) ?_
  intro p e s m below meth c A ls H locs hx hb hr hml hown hg hlocks hin hnw hgk hP hK hD hS hA hl
  have hown : s.vm.findClass RX12 = some m.cls := hown
  have hl : lv_has ls 4 [(0, .ref (ad 0)), (1, .int p0), (2, .int p1), (3, .int p2)] := hl
  have hP : va_P D vwCl (mw ad kk ks.1 V L) H := hP
  have hD : va_D A (mw ad kk ks.1 V L) := hD
  have hK : va_K D vwCl (mty kk) s := hK
  have agV : agr [(0, 48)] [45, 46, 47] V V := agr.rf
  have r1 : 0 ≤ ((V 0 48)).toInt ∧ ((V 0 48)).toInt ≤ 10000 := hMV 0 48
  refine lv_aload_n hx hb dX12_emit_0 rfl (lv_at hl 0 rfl) ?_
  refine va_get (D := D) (ci := 12) (v := .ref (ad 45)) (C := RX12) (T := TX12) (N := 100) hx hb hg inX12 hown hK hP 0 rfl rfl 45 (by decide) (hg _ w1751) (fun _ h9 => h9) rfl dX12_emit_1 ?_
  refine lv_aload_n hx hb dX12_emit_4 rfl (lv_at hl 0 rfl) ?_
  refine va_get (D := D) (ci := 12) (v := .int (V 0 49)) (C := RX12) (T := TX12) (N := 100) hx hb hg inX12 hown hK hP 0 rfl rfl 49 (by decide) (hg _ w1755) (fun _ h9 => h9) rfl dX12_emit_5 ?_
  have r2 : 0 ≤ ((V 0 49)).toInt ∧ ((V 0 49)).toInt ≤ 10000 := hMV 0 49
  refine lv_aload_n hx hb dX12_emit_8 rfl (lv_at hl 0 rfl) ?_
  refine va_get (D := D) (ci := 12) (v := .int (V 0 48)) (C := RX12) (T := TX12) (N := 100) hx hb hg inX12 hown hK hP 0 rfl rfl 48 (by decide) (hg _ w1754) (fun _ h9 => h9) rfl dX12_emit_9 ?_
  refine lv_iadd hx hb dX12_emit_12 ?_
  refine lv_topi (fun z3 ez3 => ?_)
  have hz3 : z3.toInt = ((V 0 49)).toInt + ((V 0 48)).toInt := i_add ez3 rfl rfl (by omega)
  refine lv_iload_n hx hb dX12_emit_13 rfl (lv_at hl 1 rfl) ?_
  refine va_iast (D := D) (i := z3) (x := p0) hx hb hK hP hD hS 38 37 rfl rfl (i_in (a := z3.toInt) rfl (by omega)) dX12_emit_14 (fun H locs hP hD hS => ?_)
  obtain ⟨V4, hV4⟩ : ∃ z, z = up2 V 45 (Int32.toNatClampNeg z3) p0 := ⟨_, rfl⟩
  have hP : va_P D vwCl (mw ad kk ks.1 V4 L) H := by rw [hV4]; exact hP
  have hD : va_D A (mw ad kk ks.1 V4 L) := by rw [hV4]; exact hD
  have hMV4 : rgd bM V4 := hMV.put hV4 (i_full _)
  have agV4 : agr [(0, 48)] [45, 46, 47] V V4 := agV.up hV4 rfl
  refine lv_aload_n hx hb dX12_emit_15 rfl (lv_at hl 0 rfl) ?_
  refine va_get (D := D) (ci := 12) (v := .ref (ad 46)) (C := RX12) (T := TX12) (N := 100) hx hb hg inX12 hown hK hP 0 rfl rfl 46 (by decide) (hg _ w1752) (fun _ h9 => h9) rfl dX12_emit_16 ?_
  refine lv_aload_n hx hb dX12_emit_19 rfl (lv_at hl 0 rfl) ?_
  refine va_get (D := D) (ci := 12) (v := .int (V4 0 49)) (C := RX12) (T := TX12) (N := 100) hx hb hg inX12 hown hK hP 0 rfl rfl 49 (by decide) (hg _ w1755) (fun _ h9 => h9) rfl dX12_emit_20 ?_
  refine g_top (v := (V 0 49)) (up2_o hV4 (by decide)) ?_
  refine lv_aload_n hx hb dX12_emit_23 rfl (lv_at hl 0 rfl) ?_
  refine va_get (D := D) (ci := 12) (v := .int (V4 0 48)) (C := RX12) (T := TX12) (N := 100) hx hb hg inX12 hown hK hP 0 rfl rfl 48 (by decide) (hg _ w1754) (fun _ h9 => h9) rfl dX12_emit_24 ?_
  refine g_top (v := (V 0 48)) (up2_o hV4 (by decide)) ?_
  refine lv_iadd hx hb dX12_emit_27 ?_
  refine lv_topi (fun z5 ez5 => ?_)
  have hz5 : z5.toInt = ((V 0 49)).toInt + ((V 0 48)).toInt := i_add ez5 rfl rfl (by omega)
  refine lv_iload_n hx hb dX12_emit_28 rfl (lv_at hl 2 rfl) ?_
  refine va_iast (D := D) (i := z5) (x := p1) hx hb hK hP hD hS 39 38 rfl rfl (i_in (a := z5.toInt) rfl (by omega)) dX12_emit_29 (fun H locs hP hD hS => ?_)
  obtain ⟨V6, hV6⟩ : ∃ z, z = up2 V4 46 (Int32.toNatClampNeg z5) p1 := ⟨_, rfl⟩
  have hP : va_P D vwCl (mw ad kk ks.1 V6 L) H := by rw [hV6]; exact hP
  have hD : va_D A (mw ad kk ks.1 V6 L) := by rw [hV6]; exact hD
  have hMV6 : rgd bM V6 := hMV4.put hV6 (i_full _)
  have agV6 : agr [(0, 48)] [45, 46, 47] V V6 := agV4.up hV6 rfl
  refine lv_aload_n hx hb dX12_emit_30 rfl (lv_at hl 0 rfl) ?_
  refine va_get (D := D) (ci := 12) (v := .ref (ad 47)) (C := RX12) (T := TX12) (N := 100) hx hb hg inX12 hown hK hP 0 rfl rfl 47 (by decide) (hg _ w1753) (fun _ h9 => h9) rfl dX12_emit_31 ?_
  refine lv_aload_n hx hb dX12_emit_34 rfl (lv_at hl 0 rfl) ?_
  refine va_get (D := D) (ci := 12) (v := .int (V6 0 49)) (C := RX12) (T := TX12) (N := 100) hx hb hg inX12 hown hK hP 0 rfl rfl 49 (by decide) (hg _ w1755) (fun _ h9 => h9) rfl dX12_emit_35 ?_
  refine g_top (v := (V 0 49)) ((up2_o hV6 (by decide)).trans (up2_o hV4 (by decide))) ?_
  refine lv_aload_n hx hb dX12_emit_38 rfl (lv_at hl 0 rfl) ?_
  refine va_get (D := D) (ci := 12) (v := .int (V6 0 48)) (C := RX12) (T := TX12) (N := 100) hx hb hg inX12 hown hK hP 0 rfl rfl 48 (by decide) (hg _ w1754) (fun _ h9 => h9) rfl dX12_emit_39 ?_
  refine g_top (v := (V 0 48)) ((up2_o hV6 (by decide)).trans (up2_o hV4 (by decide))) ?_
  refine lv_iadd hx hb dX12_emit_42 ?_
  refine lv_topi (fun z7 ez7 => ?_)
  have hz7 : z7.toInt = ((V 0 49)).toInt + ((V 0 48)).toInt := i_add ez7 rfl rfl (by omega)
  refine lv_iload_n hx hb dX12_emit_43 rfl (lv_at hl 3 rfl) ?_
  refine va_iast (D := D) (i := z7) (x := p2) hx hb hK hP hD hS 40 39 rfl rfl (i_in (a := z7.toInt) rfl (by omega)) dX12_emit_44 (fun H locs hP hD hS => ?_)
  obtain ⟨V8, hV8⟩ : ∃ z, z = up2 V6 47 (Int32.toNatClampNeg z7) p2 := ⟨_, rfl⟩
  have hP : va_P D vwCl (mw ad kk ks.1 V8 L) H := by rw [hV8]; exact hP
  have hD : va_D A (mw ad kk ks.1 V8 L) := by rw [hV8]; exact hD
  have hMV8 : rgd bM V8 := hMV6.put hV8 (i_full _)
  have agV8 : agr [(0, 48)] [45, 46, 47] V V8 := agV6.up hV8 rfl
  refine lv_aload_n hx hb dX12_emit_45 rfl (lv_at hl 0 rfl) ?_
  refine lv_dup hx hb dX12_emit_46 rfl ?_
  refine va_get (D := D) (ci := 12) (v := .int (V8 0 48)) (C := RX12) (T := TX12) (N := 100) hx hb hg inX12 hown hK hP 0 rfl rfl 48 (by decide) (hg _ w1754) (fun _ h9 => h9) rfl dX12_emit_47 ?_
  refine g_top (v := (V 0 48)) ((up2_o hV8 (by decide)).trans ((up2_o hV6 (by decide)).trans (up2_o hV4 (by decide)))) ?_
  refine lv_iconst (v := 1) hx hb dX12_emit_50 (by decide) ?_
  refine lv_iadd hx hb dX12_emit_51 ?_
  refine lv_topi (fun z9 ez9 => ?_)
  have hz9 : z9.toInt = ((V 0 48)).toInt + 1 := i_add ez9 rfl (by decide) (by omega)
  refine va_put (D := D) (ci := 12) (v := .int z9) (ty := tyX12 48) (C := RX12) (T := TX12) (N := 100) hx hb hg inX12 tyX12 tyX12_ok nmX12 hown hK hP hD hS 0 rfl rfl 48 (by decide) (hg _ w1754) (fun _ h9 => h9) rfl (tyX12_ok 48 (by decide)) rfl rfl (Nat.le_of_ble_eq_true rfl) dX12_emit_52 (fun H locs hP hD hS => ?_)
  obtain ⟨V10, hV10⟩ : ∃ z, z = up2 V8 0 48 z9 := ⟨_, rfl⟩
  have hP : va_P D vwCl (mw ad kk ks.1 V10 L) H := by rw [hV10]; exact hP
  have hD : va_D A (mw ad kk ks.1 V10 L) := by rw [hV10]; exact hD
  have hMV10 : rgd bM V10 := hMV8.put hV10 (show 0 ≤ z9.toInt ∧ z9.toInt ≤ 10000 from by omega)
  have agV10 : agr [(0, 48)] [45, 46, 47] V V10 := agV8.up hV10 rfl
  refine lv_aload_n hx hb dX12_emit_55 rfl (lv_at hl 0 rfl) ?_
  refine va_get (D := D) (ci := 12) (v := .int (V10 0 49)) (C := RX12) (T := TX12) (N := 100) hx hb hg inX12 hown hK hP 0 rfl rfl 49 (by decide) (hg _ w1755) (fun _ h9 => h9) rfl dX12_emit_56 ?_
  refine g_top (v := (V 0 49)) ((up2_k hV10 (by decide)).trans ((up2_o hV8 (by decide)).trans ((up2_o hV6 (by decide)).trans (up2_o hV4 (by decide))))) ?_
  refine lv_aload_n hx hb dX12_emit_59 rfl (lv_at hl 0 rfl) ?_
  refine va_get (D := D) (ci := 12) (v := .int (V10 0 48)) (C := RX12) (T := TX12) (N := 100) hx hb hg inX12 hown hK hP 0 rfl rfl 48 (by decide) (hg _ w1754) (fun _ h9 => h9) rfl dX12_emit_60 ?_
  refine g_top (v := z9) (up2_s hV10) ?_
  refine lv_iadd hx hb dX12_emit_63 ?_
  refine lv_topi (fun z11 ez11 => ?_)
  have hz11 : z11.toInt = ((V 0 49)).toInt + z9.toInt := i_add ez11 rfl rfl (by omega)
  refine lv_iconst (v := 1) hx hb dX12_emit_64 (by decide) ?_
  refine lv_isub hx hb dX12_emit_65 ?_
  refine lv_topi (fun z12 ez12 => ?_)
  have hz12 : z12.toInt = z11.toInt - 1 := i_sub ez12 rfl (by decide) (by omega)
  have pq13 : (V10 0 48).toInt = z9.toInt := congrArg Int32.toInt (up2_s hV10)
  have pq14 : (V10 0 49).toInt = ((V 0 49)).toInt := congrArg Int32.toInt ((up2_k hV10 (by decide)).trans ((up2_o hV8 (by decide)).trans ((up2_o hV6 (by decide)).trans (up2_o hV4 (by decide)))))
  exact W.iret (v := z12) hx hb hr (fun t ht hW => ⟨⟨z12, (V10, L), rfl, ⟨hMV10, agV10, rfl, (show 0 ≤ z12.toInt ∧ z12.toInt ≤ 20000 from by omega), (show (V10 0 48).toInt = (V 0 48).toInt + 1 from by omega), (show z12.toInt = (V 0 49).toInt + (V 0 48).toInt from by omega), (emit_w (S := (V 0 49).toInt + (V 0 48).toInt) hV4 hV6 hV8 hV10 (by omega) (by omega) (by omega))⟩, by rw [ht]; exact hP, va_K.moved hW.alike hK, hD⟩, hS.F ht⟩) hS.2.2 dX12_emit_66
