/-! the content of a BOOK (the reference's cells) beside the machine's numbers -/
def SEm (V : Vf) (q : Nat) (s : St) : Prop := ∀ i, i < (s.2.1 1).length → (V 18 (12 * q + i)).toInt = ((s.1 (10 + i) : Nat) : Int)
def BTm (V : Vf) (x o m : Nat) : Prop := ∀ g, g < 24 → ((V x (24 * o + g)).toInt = 1 ↔ m.testBit g = true)
def TYm (V : Vf) (q : Nat) (s : St) : Prop := ∀ t, t < (s.2.1 0).length → BTm V 15 (24 * q + t) (s.1 (30 + t))
def NEm (V : Vf) (o : Nat) (f : Nat → Nat) (c j : Nat) : Prop := (V 28 (8 * o + j)).toInt = ((f (300 + 32 * c + 4 * j) : Nat) : Int) ∧ ((V 29 (8 * o + j)).toInt = 1 ↔ f (301 + 32 * c + 4 * j) = 1) ∧ ((V 30 (8 * o + j)).toInt = 1 ↔ f (301 + 32 * c + 4 * j) = 2) ∧ (V 31 (8 * o + j)).toInt + 1 = ((f (302 + 32 * c + 4 * j) : Nat) : Int)
def HDn (V : Vf) (o m sc ca ra ws wv : Nat) : Prop := BTm V 21 o m ∧ (V 22 o).toInt = (sc : Int) ∧ (V 23 o).toInt + 1 = (ca : Int) ∧ (V 24 o).toInt = (ra : Int) ∧ (V 25 o).toInt + 1 = (ws : Int) ∧ (ws ≠ 0 → (V 26 o).toInt = (wv : Int))
def COm (V : Vf) (o : Nat) (f : Nat → Nat) (c : Nat) : Prop := HDn V o (f (60 + 8 * c)) (f (61 + 8 * c)) (f (62 + 8 * c)) (f (63 + 8 * c)) (f (64 + 8 * c)) (f (65 + 8 * c)) ∧ (V 27 o).toInt = ((f (66 + 8 * c) : Nat) : Int) ∧ f (66 + 8 * c) ≤ 8 ∧ ∀ j, j < f (66 + 8 * c) → NEm V o f c j
def CNm (V : Vf) (q : Nat) (s : St) : Prop := LNb s ∧ SEm V q s ∧ TYm V q s ∧ ∀ c, c < (s.2.1 2).length → COm V (24 * q + c) s.1 c
def rdm (q n0 n1 n2 x k : Nat) : Prop := (x = 15 ∧ 576 * q ≤ k ∧ k < 576 * q + 24 * n0) ∨ (x = 18 ∧ 12 * q ≤ k ∧ k < 12 * q + n1) ∨ (x = 21 ∧ 576 * q ≤ k ∧ k < 576 * q + 24 * n2) ∨ (22 ≤ x ∧ x ≤ 27 ∧ 24 * q ≤ k ∧ k < 24 * q + n2) ∨ (28 ≤ x ∧ x ≤ 31 ∧ 192 * q ≤ k ∧ k < 192 * q + 8 * n2)
theorem HDn.mv {V W : Vf} {o m sc ca ra ws wv : Nat} (h : HDn V o m sc ca ra ws wv) (e0 : ∀ g, g < 24 → W 21 (24 * o + g) = V 21 (24 * o + g)) (e : ∀ x, 22 ≤ x → x ≤ 27 → W x o = V x o) : HDn W o m sc ca ra ws wv := by
  unfold HDn at h ⊢
  rw [e 22 (by decide) (by decide), e 23 (by decide) (by decide), e 24 (by decide) (by decide), e 25 (by decide) (by decide), e 26 (by decide) (by decide)]
  exact ⟨fun g hg => by rw [e0 g hg]; exact h.1 g hg, h.2⟩
theorem COm.mv {V W : Vf} {o c : Nat} {f g : Nat → Nat} (h : COm V o f c) (e0 : ∀ g, g < 24 → W 21 (24 * o + g) = V 21 (24 * o + g)) (e : ∀ x, 22 ≤ x → x ≤ 27 → W x o = V x o) (e2 : ∀ x j, 28 ≤ x → x ≤ 31 → j < 8 → W x (8 * o + j) = V x (8 * o + j)) (k : ∀ i, 60 ≤ i → g i = f i) : COm W o g c := by
  obtain ⟨h1, h2, h3, h4⟩ := h
  have k6 := k (66 + 8 * c) (by omega)
  refine ⟨?_, by rw [e 27 (by decide) (by decide), k6]; exact h2, by rw [k6]; exact h3, fun j hj => ?_⟩
  · rw [k (60 + 8 * c) (by omega), k (61 + 8 * c) (by omega), k (62 + 8 * c) (by omega), k (63 + 8 * c) (by omega), k (64 + 8 * c) (by omega), k (65 + 8 * c) (by omega)]
    exact h1.mv e0 e
  · rw [k6] at hj
    have z := h4 j hj
    unfold NEm at z ⊢
    rw [e2 28 j (by decide) (by decide) (by omega), e2 29 j (by decide) (by decide) (by omega), e2 30 j (by decide) (by decide) (by omega), e2 31 j (by decide) (by decide) (by omega), k (300 + 32 * c + 4 * j) (by omega), k (301 + 32 * c + 4 * j) (by omega), k (302 + 32 * c + 4 * j) (by omega)]
    exact z
theorem CNm.mv {V W : Vf} {q : Nat} {s s' : St} (h : CNm V q s) (e : ∀ x k, rdm q (s.2.1 0).length (s.2.1 1).length (s.2.1 2).length x k → W x k = V x k) (k : keepC s s') : CNm W q s' := by
  obtain ⟨h0, h1, h2, h3⟩ := h
  unfold CNm LNb SEm TYm
  rw [k.2 0 (by decide), k.2 1 (by decide), k.2 2 (by decide)]
  refine ⟨h0, fun i hi => ?_, fun t ht g hg => ?_, fun c hc => ?_⟩
  · rw [e 18 _ (Or.inr (Or.inl ⟨rfl, by omega, by omega⟩)), k.1 _ (by omega)]
    exact h1 i hi
  · rw [e 15 _ (Or.inl ⟨rfl, by omega, by omega⟩), k.1 _ (by omega)]
    exact h2 t ht g hg
  · exact (h3 c hc).mv (fun g hg => e 21 _ (Or.inr (Or.inr (Or.inl ⟨rfl, by omega, by omega⟩)))) (fun x a1 a2 => e x _ (Or.inr (Or.inr (Or.inr (Or.inl ⟨a1, a2, by omega, by omega⟩))))) (fun x j a1 a2 hj => e x _ (Or.inr (Or.inr (Or.inr (Or.inr ⟨a1, a2, by omega, by omega⟩))))) (fun i hi => k.1 i (by omega))
def okKm (fs : List (Nat × Nat)) (cs : List Nat) : Bool := cs.all (fun c => !([15, 18, 21, 22, 23, 24, 25, 26, 27, 28, 29, 30, 31].contains c)) && fs.all (fun x => !(([] : List (Nat × Nat)).contains x) && decide (x.1 ≤ 0))
theorem rdm.in {q n0 n1 n2 x k : Nat} (h : rdm q n0 n1 n2 x k) : [15, 18, 21, 22, 23, 24, 25, 26, 27, 28, 29, 30, 31].contains x = true ∧ 0 < x := by
  have z : x = 15 ∨ x = 18 ∨ x = 21 ∨ x = 22 ∨ x = 23 ∨ x = 24 ∨ x = 25 ∨ x = 26 ∨ x = 27 ∨ x = 28 ∨ x = 29 ∨ x = 30 ∨ x = 31 := by
    unfold rdm at h
    omega
  rcases z with z | z | z | z | z | z | z | z | z | z | z | z | z <;> (subst z; exact ⟨by decide, by decide⟩)
theorem CNm.ag {V W : Vf} {q : Nat} {s s' : St} {fs : List (Nat × Nat)} {cs : List Nat} (h : CNm V q s) (a : agr fs cs V W) (o : okKm fs cs = true) (k : keepC s s') : CNm W q s' :=
  h.mv (fun x i z => okm_use a o z.in.1 (Or.inl z.in.2)) k
theorem CNm.up {V W : Vf} {q c p : Nat} {v : Int32} {s : St} (h : CNm V q s) (e : W = up2 V c p v) (hp : ¬ rdm q (s.2.1 0).length (s.2.1 1).length (s.2.1 2).length c p) : CNm W q s :=
  h.mv (fun x k z => by rw [e]; exact up2_pl (fun y => hp (by rw [y.1, y.2] at z; exact z))) keepC.rf
/-- a setting more -/
theorem CNm.se {V : Vf} {q v : Nat} {s : St} {w : Int64} (h : CNm V q s) (hx : (V 18 (12 * q + (s.2.1 1).length)).toInt = (v : Int)) (hl : (s.2.1 1).length < 12) : CNm V q (seS s w v) := by
  obtain ⟨h0, h1, h2, h3⟩ := h
  have l0 : ((seS s w v).2.1 0) = s.2.1 0 := (show upB s.2.1 1 w 0 = s.2.1 0 from lenB_o (by decide))
  have l1 : ((seS s w v).2.1 1).length = (s.2.1 1).length + 1 := (show (upB s.2.1 1 w 1).length = _ from lenB_s _ _ _)
  have l2 : ((seS s w v).2.1 2) = s.2.1 2 := (show upB s.2.1 1 w 2 = s.2.1 2 from lenB_o (by decide))
  have n : ∀ i, i ≠ 10 + (s.2.1 1).length → (seS s w v).1 i = s.1 i := fun i hi => upN_o _ _ _ hi
  have m : (seS s w v).1 (10 + (s.2.1 1).length) = v := upN_s _ _ _
  unfold LNb at h0
  unfold CNm LNb SEm TYm
  rw [l0, l1, l2]
  refine ⟨by omega, fun i hi => ?_, fun t ht => ?_, fun c hc => ?_⟩
  · by_cases c : i = (s.2.1 1).length
    · subst c
      rw [m]
      exact hx
    · rw [n _ (by omega)]
      exact h1 i (by omega)
  · rw [n _ (by omega)]
    exact h2 t ht
  · exact (h3 c hc).mv (fun g hg => rfl) (fun x a1 a2 => rfl) (fun x j a1 a2 hj => rfl) (fun i hi => n i (by omega))
/-- a type more -/
theorem CNm.ty {V : Vf} {q : Nat} {s : St} {w : Int64} {l : List Nat} (h : CNm V q s) (hx : BTm V 15 (24 * q + (s.2.1 0).length) (msk s.1 l ||| 2 ^ (s.2.1 0).length)) (hl : (s.2.1 0).length < 24) : CNm V q (tyS s w l) := by
  obtain ⟨h0, h1, h2, h3⟩ := h
  have l0 : ((tyS s w l).2.1 0).length = (s.2.1 0).length + 1 := (show (upB s.2.1 0 w 0).length = _ from lenB_s _ _ _)
  have l1 : ((tyS s w l).2.1 1) = s.2.1 1 := (show upB s.2.1 0 w 1 = s.2.1 1 from lenB_o (by decide))
  have l2 : ((tyS s w l).2.1 2) = s.2.1 2 := (show upB s.2.1 0 w 2 = s.2.1 2 from lenB_o (by decide))
  have n : ∀ i, i ≠ 30 + (s.2.1 0).length → (tyS s w l).1 i = s.1 i := fun i hi => upN_o _ _ _ hi
  have m : (tyS s w l).1 (30 + (s.2.1 0).length) = msk s.1 l ||| 2 ^ (s.2.1 0).length := upN_s _ _ _
  unfold LNb at h0
  unfold CNm LNb SEm TYm
  rw [l0, l1, l2]
  refine ⟨by omega, fun i hi => ?_, fun t ht => ?_, fun c hc => ?_⟩
  · rw [n _ (by omega)]
    exact h1 i hi
  · by_cases c : t = (s.2.1 0).length
    · subst c
      rw [m]
      exact hx
    · rw [n _ (by omega)]
      exact h2 t (by omega)
  · exact (h3 c hc).mv (fun g hg => rfl) (fun x a1 a2 => rfl) (fun x j a1 a2 hj => rfl) (fun i hi => n i (by omega))
/-- a component more -/
theorem CNm.nm {V : Vf} {q o m : Nat} {sc : Int} {ca ra ws wv : Nat} {s : St} {w : Int64} (h : CNm V q s) (ho : o = 24 * q + (s.2.1 2).length) (hd : HDn V o m sc.toNat ca ra ws wv) (n0 : (V 27 o).toInt = 0) (hl : (s.2.1 2).length < 24) : CNm V q (nmS s m sc w [wv, ws, ra, ca]) := by
  obtain ⟨h0, h1, h2, h3⟩ := h
  have l0 : ((nmS s m sc w [wv, ws, ra, ca]).2.1 0) = s.2.1 0 := (show upB s.2.1 2 w 0 = s.2.1 0 from lenB_o (by decide))
  have l1 : ((nmS s m sc w [wv, ws, ra, ca]).2.1 1) = s.2.1 1 := (show upB s.2.1 2 w 1 = s.2.1 1 from lenB_o (by decide))
  have l2 : ((nmS s m sc w [wv, ws, ra, ca]).2.1 2).length = (s.2.1 2).length + 1 := (show (upB s.2.1 2 w 2).length = _ from lenB_s _ _ _)
  have n : ∀ i, i < 60 + 8 * (s.2.1 2).length ∨ 68 + 8 * (s.2.1 2).length ≤ i → (nmS s m sc w [wv, ws, ra, ca]).1 i = s.1 i := fun i hi => hdr_o hi
  have qq : ∀ r, r < 8 → (nmS s m sc w [wv, ws, ra, ca]).1 (60 + 8 * (s.2.1 2).length + r) = hvl m sc.toNat [wv, ws, ra, ca] r := fun r hr => hdr_i hr
  unfold LNb at h0
  unfold CNm LNb SEm TYm
  rw [l0, l1, l2]
  refine ⟨by omega, fun i hi => ?_, fun t ht => ?_, fun c hc => ?_⟩
  · rw [n _ (by omega)]
    exact h1 i hi
  · rw [n _ (by omega)]
    exact h2 t ht
  · by_cases e : c = (s.2.1 2).length
    · subst e
      have q0 := qq 0 (by decide)
      have q1 := qq 1 (by decide)
      have q2 := qq 2 (by decide)
      have q3 := qq 3 (by decide)
      have q4 := qq 4 (by decide)
      have q5 := qq 5 (by decide)
      have q6 := qq 6 (by decide)
      unfold COm
      rw [show 60 + 8 * (s.2.1 2).length = 60 + 8 * (s.2.1 2).length + 0 from rfl, q0, show 61 + 8 * (s.2.1 2).length = 60 + 8 * (s.2.1 2).length + 1 from by omega, q1, show 62 + 8 * (s.2.1 2).length = 60 + 8 * (s.2.1 2).length + 2 from by omega, q2, show 63 + 8 * (s.2.1 2).length = 60 + 8 * (s.2.1 2).length + 3 from by omega, q3, show 64 + 8 * (s.2.1 2).length = 60 + 8 * (s.2.1 2).length + 4 from by omega, q4, show 65 + 8 * (s.2.1 2).length = 60 + 8 * (s.2.1 2).length + 5 from by omega, q5, show 66 + 8 * (s.2.1 2).length = 60 + 8 * (s.2.1 2).length + 6 from by omega, q6, ← ho]
      exact ⟨hd, n0, Nat.zero_le _, fun j hj => absurd hj (Nat.not_lt_zero _)⟩
    · have z := h3 c (by omega)
      have nn : ∀ i, (60 ≤ i ∧ i < 60 + 8 * (s.2.1 2).length ∨ 68 + 8 * (s.2.1 2).length ≤ i) → (nmS s m sc w [wv, ws, ra, ca]).1 i = s.1 i := fun i hi => n i (by omega)
      unfold COm at z ⊢
      rw [n _ (by omega), n _ (by omega), n _ (by omega), n _ (by omega), n _ (by omega), n _ (by omega), n _ (by omega)]
      refine ⟨z.1, z.2.1, z.2.2.1, fun j hj => ?_⟩
      have y := z.2.2.2 j hj
      have y3 := z.2.2.1
      unfold NEm at y ⊢
      rw [n (300 + 32 * c + 4 * j) (by omega), n (301 + 32 * c + 4 * j) (by omega), n (302 + 32 * c + 4 * j) (by omega)]
      exact y
/-- a need more -/
theorem CNm.nd {V W : Vf} {q o f ca : Nat} {a : Int} {s : St} (h : CNm V q s) (ho : o + 1 = 24 * q + (s.2.1 2).length) (hb : 24 * q ≤ o) (h1 : (V 27 o).toInt = ((s.1 1 : Nat) : Int)) (h8 : s.1 1 < 8) (e45 : W 15 = V 15) (e46 : W 18 = V 18) (e50 : ∀ x, 21 ≤ x → x ≤ 26 → W x = V x) (e27 : ∀ k, k ≠ o → W 27 k = V 27 k) (n27 : (W 27 o).toInt = (V 27 o).toInt + 1) (e58 : ∀ x k, 28 ≤ x → x ≤ 31 → k ≠ 8 * o + s.1 1 → W x k = V x k) (c28 : (W 28 (8 * o + s.1 1)).toInt = (f : Int)) (c29 : (W 29 (8 * o + s.1 1)).toInt = 1 ↔ a.toNat = 1) (c30 : (W 30 (8 * o + s.1 1)).toInt = 1 ↔ a.toNat = 2) (c31 : (W 31 (8 * o + s.1 1)).toInt + 1 = (ca : Int)) : CNm W q (ndS s a f ca) := by
  obtain ⟨h0, hs, ht, hc⟩ := h
  have l24 := h0.2.2
  obtain ⟨c0, ec⟩ : ∃ c0, c0 + 1 = (s.2.1 2).length := ⟨(s.2.1 2).length - 1, by omega⟩
  have ec2 : (s.2.1 2).length - 1 = c0 := by omega
  have eo : o = 24 * q + c0 := by omega
  have e66 : s.1 (66 + 8 * c0) = s.1 1 := by
    have z := (hc c0 (by omega)).2.1
    rw [← eo] at z
    omega
  have num : ∀ i, (ndS s a f ca).1 i = ndf s.1 c0 a.toNat f ca i := fun i => by
    show ndf s.1 ((s.2.1 2).length - 1) a.toNat f ca i = _
    rw [ec2]
  refine ⟨h0, fun i hi => ?_, fun t ht' => ?_, fun c hc' => ?_⟩
  · have l1 : i < 12 := Nat.lt_of_lt_of_le hi h0.2.1
    rw [num, ndf_lo (by omega) (by omega), e46]
    exact hs i hi
  · have l1 : t < 24 := Nat.lt_of_lt_of_le ht' h0.1
    rw [num, ndf_lo (by omega) (by omega)]
    unfold BTm
    rw [e45]
    exact ht t ht'
  · have hc2 : c < (s.2.1 2).length := hc'
    have z := hc c hc2
    have hd : HDn W (24 * q + c) (s.1 (60 + 8 * c)) (s.1 (61 + 8 * c)) (s.1 (62 + 8 * c)) (s.1 (63 + 8 * c)) (s.1 (64 + 8 * c)) (s.1 (65 + 8 * c)) := by
      have z1 := z.1
      unfold HDn BTm at z1 ⊢
      rw [e50 21 (by decide) (by decide), e50 22 (by decide) (by decide), e50 23 (by decide) (by decide), e50 24 (by decide) (by decide), e50 25 (by decide) (by decide), e50 26 (by decide) (by decide)]
      exact z1
    have hn : ∀ r, r < 6 → (ndS s a f ca).1 (60 + r + 8 * c) = s.1 (60 + r + 8 * c) := fun r hr => by
      rw [num, ndf_h (by omega) (by omega) (by omega)]
    have g0 : (ndS s a f ca).1 (60 + 8 * c) = s.1 (60 + 8 * c) := hn 0 (by decide)
    have g1 : (ndS s a f ca).1 (61 + 8 * c) = s.1 (61 + 8 * c) := hn 1 (by decide)
    have g2 : (ndS s a f ca).1 (62 + 8 * c) = s.1 (62 + 8 * c) := hn 2 (by decide)
    have g3 : (ndS s a f ca).1 (63 + 8 * c) = s.1 (63 + 8 * c) := hn 3 (by decide)
    have g4 : (ndS s a f ca).1 (64 + 8 * c) = s.1 (64 + 8 * c) := hn 4 (by decide)
    have g5 : (ndS s a f ca).1 (65 + 8 * c) = s.1 (65 + 8 * c) := hn 5 (by decide)
    unfold COm
    rw [g0, g1, g2, g3, g4, g5]
    refine ⟨hd, ?_⟩
    by_cases qc : c = c0
    · subst qc
      rw [num, ndf_n, ← eo]
      refine ⟨by rw [n27, h1]; omega, by omega, fun j hj => ?_⟩
      unfold NEm
      by_cases d : j = s.1 1
      · subst d
        rw [num, num, num, ndf_t (by omega), ndf_k (by omega), ndf_w (by omega)]
        exact ⟨c28, c29, c30, c31⟩
      · have y := z.2.2.2 j (by omega)
        unfold NEm at y
        rw [← eo] at y
        rw [num (300 + 32 * c + 4 * j), num (301 + 32 * c + 4 * j), num (302 + 32 * c + 4 * j), ndf_o (i := 300 + 32 * c + 4 * j) (by omega) (by omega) (by omega), ndf_o (i := 301 + 32 * c + 4 * j) (by omega) (by omega) (by omega), ndf_o (i := 302 + 32 * c + 4 * j) (by omega) (by omega) (by omega), e58 28 _ (by decide) (by decide) (by omega), e58 29 _ (by decide) (by decide) (by omega), e58 30 _ (by decide) (by decide) (by omega), e58 31 _ (by decide) (by decide) (by omega)]
        exact y
    · have k6 : (ndS s a f ca).1 (66 + 8 * c) = s.1 (66 + 8 * c) := by
        rw [num, ndf_h (by omega) (by omega) (by omega)]
      rw [k6, e27 _ (by omega)]
      refine ⟨z.2.1, z.2.2.1, fun j hj => ?_⟩
      have y := z.2.2.2 j hj
      have y3 := z.2.2.1
      unfold NEm at y ⊢
      rw [num (300 + 32 * c + 4 * j), num (301 + 32 * c + 4 * j), num (302 + 32 * c + 4 * j), ndf_o (i := 300 + 32 * c + 4 * j) (by omega) (by omega) (by omega), ndf_o (i := 301 + 32 * c + 4 * j) (by omega) (by omega) (by omega), ndf_o (i := 302 + 32 * c + 4 * j) (by omega) (by omega) (by omega), e58 28 _ (by decide) (by decide) (by omega), e58 29 _ (by decide) (by decide) (by omega), e58 30 _ (by decide) (by decide) (by omega), e58 31 _ (by decide) (by decide) (by omega)]
      exact y
theorem CNm.z {V : Vf} {q : Nat} : CNm V q St0 := ⟨⟨Nat.zero_le _, Nat.zero_le _, Nat.zero_le _⟩, fun i h => absurd h (Nat.not_lt_zero _), fun i h => absurd h (Nat.not_lt_zero _), fun i h => absurd h (Nat.not_lt_zero _)⟩
theorem RelM.nu {V : Vf} {L : Lf} {q n : Nat} {T : Tk} {s s' : St} {l2 : List Int64} (h : RelM V L q n T s l2) (e : s'.1 0 = s.1 0) (e2 : s'.2 = s.2) : RelM V L q n T s' l2 := by
  obtain ⟨a, c⟩ := s
  obtain ⟨a', c'⟩ := s'
  have e3 : c' = c := e2
  subst e3
  refine ⟨?_, h.2.1, h.2.2.1, h.2.2.2⟩
  have z := h.1
  unfold HDm at z ⊢
  rw [e]
  exact z



