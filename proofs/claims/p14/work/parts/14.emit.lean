/-- one order was laid at A, nothing else of the code has changed -/
def emitted (V W : Vf) (A : Nat) (a b c : Int32) : Prop := (W 45 A = a ∧ W 46 A = b ∧ W 47 A = c) ∧ ∀ i, i ≠ A → W 45 i = V 45 i ∧ W 46 i = V 46 i ∧ W 47 i = V 47 i
theorem emit_w {V V1 V2 V3 V4 : Vf} {z1 z2 z3 a b c v : Int32} {S : Int} (h1 : V1 = up2 V 45 (Int32.toNatClampNeg z1) a) (h2 : V2 = up2 V1 46 (Int32.toNatClampNeg z2) b) (h3 : V3 = up2 V2 47 (Int32.toNatClampNeg z3) c) (h4 : V4 = up2 V3 0 48 v) (e1 : z1.toInt = S) (e2 : z2.toInt = S) (e3 : z3.toInt = S) : emitted V V4 S.toNat a b c := by
  have k1 : Int32.toNatClampNeg z1 = S.toNat := by rw [← e1]; rfl
  have k2 : Int32.toNatClampNeg z2 = S.toNat := by rw [← e2]; rfl
  have k3 : Int32.toNatClampNeg z3 = S.toNat := by rw [← e3]; rfl
  rw [k1] at h1
  rw [k2] at h2
  rw [k3] at h3
  refine ⟨⟨?_, ?_, ?_⟩, fun i hi => ⟨?_, ?_, ?_⟩⟩
  · exact (up2_o h4 (by decide)).trans ((up2_o h3 (by decide)).trans ((up2_o h2 (by decide)).trans (up2_s h1)))
  · exact (up2_o h4 (by decide)).trans ((up2_o h3 (by decide)).trans (up2_s h2))
  · exact (up2_o h4 (by decide)).trans (up2_s h3)
  · exact (up2_o h4 (by decide)).trans ((up2_o h3 (by decide)).trans ((up2_o h2 (by decide)).trans (up2_k h1 hi)))
  · exact (up2_o h4 (by decide)).trans ((up2_o h3 (by decide)).trans ((up2_k h2 hi).trans (up2_o h1 (by decide))))
  · exact (up2_o h4 (by decide)).trans ((up2_k h3 hi).trans ((up2_o h2 (by decide)).trans (up2_o h1 (by decide))))
theorem emitted.same {V W : Vf} {A x y : Nat} {a b c : Int32} (h : emitted V W A a b c) (hy : y ≤ A ∨ A < x) : same3 V W x y := fun i h1 h2 => h.2 i (by omega)
/-- nothing of the code has changed but from a to b -/
def sameX (V W : Vf) (a b : Nat) : Prop := ∀ i, i < a ∨ b ≤ i → W 45 i = V 45 i ∧ W 46 i = V 46 i ∧ W 47 i = V 47 i
theorem sameX.rf {V : Vf} {a b : Nat} : sameX V V a b := fun _ _ => ⟨rfl, rfl, rfl⟩
theorem sameX.tr {V W X : Vf} {a b a' : Nat} (h : sameX V W a b) (h2 : sameX W X a' b) (ha : a ≤ a') : sameX V X a b := fun i hi =>
  have q := h i hi
  have r := h2 i (by omega)
  ⟨r.1.trans q.1, r.2.1.trans q.2.1, r.2.2.trans q.2.2⟩
theorem sameX.agr {fs : List (Nat × Nat)} {cs : List Nat} {V W : Vf} {a b : Nat} (h : agr fs cs V W) (h1 : ∀ k, wrL fs cs 45 k = false) (h2 : ∀ k, wrL fs cs 46 k = false) (h3 : ∀ k, wrL fs cs 47 k = false) : sameX V W a b := fun i _ => ⟨h _ _ (h1 i), h _ _ (h2 i), h _ _ (h3 i)⟩
theorem emitted.X {V W : Vf} {A a' b' : Nat} {a b c : Int32} (h : emitted V W A a b c) (h1 : a' ≤ A) (h2 : A < b') : sameX V W a' b' := fun i hi => h.2 i (by omega)
theorem sameX.three {V W : Vf} {a b x y : Nat} (h : sameX V W a b) (hy : y ≤ a ∨ b ≤ x) : same3 V W x y := fun i h1 h2 => h i (by omega)


abbrev r_s_emit2 : Room := { frames := 0, cells := 0, slots := 0, locals := 0 }
abbrev q_s_emit2 (D : va_G) (ks : KS) (ad : Nat → Nat) (kk : Nat → ClassId) (V : Vf) (L : Lf) (p0 : Int32) (p1 : Int32) (p2 : Int32) (A : Nat → Prop) : Array Value → State → Outcome → State → Prop := va_Qi (fun (r : Int32) (u : Vf × Lf) => rgd bM u.1 ∧ agr [(0, 48)] [45, 46, 47] V u.1 ∧ u.2 = L ∧ (0 ≤ r.toInt ∧ r.toInt ≤ 20000) ∧ ((u.1 0 48).toInt = (V 0 48).toInt + 1) ∧ (r.toInt = (V 0 49).toInt + (V 0 48).toInt) ∧ (emitted V u.1 (((V 0 49).toInt + (V 0 48).toInt).toNat) p0 p1 p2)) (fun u t => gq D A (mw ad kk ks.1 u.1 u.2) (mty kk) t) A