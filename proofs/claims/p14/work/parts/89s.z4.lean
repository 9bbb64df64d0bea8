/-! where a component's E's begin; wraps: the reference -/
def cM (V : Vf) (o k : Nat) : Int := if k < 20 then (V 34 (20 * o + k)).toInt else if k = 30 then (V 32 o).toInt else (V 33 o).toInt
def rgm (p : Nat) (s : St) (j : Nat) : Int := if nL s j = 0 then -1 else (p : Int) + ((nL s j - 1 : Nat) : Int)
def REm (V : Vf) (b : Nat) (s : St) : Prop := (s.2.1 2).length ≤ 24 ∧ (∀ c, c < (s.2.1 2).length → ∀ k, okR k → cM V (24 * b + c) k = rgm (10000 * b) s (100 + 32 * c + k)) ∧ (∀ j, 100 ≤ j → j < 900 → nL s j ≤ cl s + 1) ∧ ∀ j, 100 + 32 * (s.2.1 2).length ≤ j → j < 900 → nL s j = 0
theorem cM_e {V W : Vf} {o k : Nat} (e1 : k < 20 → W 34 (20 * o + k) = V 34 (20 * o + k)) (e2 : W 32 o = V 32 o) (e3 : W 33 o = V 33 o) : cM W o k = cM V o k := by
  unfold cM
  by_cases a : k < 20
  · rw [if_pos a, if_pos a, e1 a]
  · rw [if_neg a, if_neg a, e2, e3]
theorem rgm_e {p : Nat} {s s' : St} {j : Nat} (n : nL s' j = nL s j) : rgm p s' j = rgm p s j := by
  unfold rgm
  rw [n]
theorem REm.mv {V W : Vf} {b : Nat} {s s' : St} (h : REm V b s) (e : ∀ c, c < (s.2.1 2).length → ∀ k, okR k → cM W (24 * b + c) k = cM V (24 * b + c) k) (k : keepE s s') (l : s'.2.1 2 = s.2.1 2) : REm W b s' := by
  have h0 := h.1
  have n : ∀ j, 100 ≤ j → j < 900 → nL s' j = nL s j := fun j h1 h2 => congrArg List.length (k.2 j (by omega) (by omega))
  unfold REm
  rw [l]
  refine ⟨h0, fun c hc q hq => ?_, fun j h1 h2 => ?_, fun j h1 h2 => ?_⟩
  · have b1 : 100 + 32 * c + q < 900 := by unfold okR at hq; omega
    rw [e c hc q hq, h.2.1 c hc q hq]
    exact (rgm_e (n _ (by omega) b1)).symm
  · rw [n j h1 h2]
    have := h.2.2.1 j h1 h2
    have := k.1
    omega
  · rw [n j (by omega) h2]
    exact h.2.2.2 j h1 h2
theorem REm.ag {fs : List (Nat × Nat)} {cs : List Nat} {V W : Vf} {b : Nat} {s s' : St} (h : REm V b s) (a : agr fs cs V W) (q : ∀ k, wrL fs cs 32 k = false ∧ wrL fs cs 33 k = false ∧ wrL fs cs 34 k = false) (k : keepE s s') (l : s'.2.1 2 = s.2.1 2) : REm W b s' :=
  h.mv (fun _ _ _ _ => cM_e (fun _ => a _ _ (q _).2.2) (a _ _ (q _).1) (a _ _ (q _).2.1)) k l
theorem cM_30 {V W : Vf} {o : Nat} {v : Int32} (e : W = up2 V 32 o v) : cM W o 30 = v.toInt ∧ ∀ o' q, okR q → ¬ (o' = o ∧ q = 30) → cM W o' q = cM V o' q := by
  refine ⟨?_, fun o' q _ hn => ?_⟩
  · show (W 32 o).toInt = _
    rw [up2_s e]
  · unfold cM
    by_cases a : q < 20
    · rw [if_pos a, if_pos a, up2_o e (by decide)]
    · rw [if_neg a, if_neg a]
      by_cases c : q = 30
      · rw [if_pos c, if_pos c, up2_k e (fun z => hn ⟨z, c⟩)]
      · rw [if_neg c, if_neg c, up2_o e (by decide)]
theorem cM_31 {V W : Vf} {o : Nat} {v : Int32} (e : W = up2 V 33 o v) : cM W o 31 = v.toInt ∧ ∀ o' q, okR q → ¬ (o' = o ∧ q = 31) → cM W o' q = cM V o' q := by
  refine ⟨?_, fun o' q hq hn => ?_⟩
  · show (W 33 o).toInt = _
    rw [up2_s e]
  · unfold cM
    by_cases a : q < 20
    · rw [if_pos a, if_pos a, up2_o e (by decide)]
    · rw [if_neg a, if_neg a]
      by_cases c : q = 30
      · rw [if_pos c, if_pos c, up2_o e (by decide)]
      · have q31 : q = 31 := by unfold okR at hq; omega
        rw [if_neg c, if_neg c, up2_k e (fun z => hn ⟨z, q31⟩)]
theorem cM_m {V W : Vf} {o f : Nat} {v : Int32} (hf : f < 20) (e : W = up2 V 34 (20 * o + f) v) : cM W o f = v.toInt ∧ ∀ o' q, okR q → ¬ (o' = o ∧ q = f) → cM W o' q = cM V o' q := by
  refine ⟨?_, fun o' q hq hn => ?_⟩
  · unfold cM
    rw [if_pos hf, up2_s e]
  · unfold cM
    by_cases a : q < 20
    · rw [if_pos a, if_pos a, up2_k e (by omega)]
    · rw [if_neg a, if_neg a, up2_o e (by decide), up2_o e (by decide)]
theorem REm.st {V W : Vf} {b k o : Nat} {x : Int} {s s' : St} (h : REm V b s) (hk : okR k) (ho : o + 1 = 24 * b + (s.2.1 2).length) (hb : 24 * b ≤ o) (c : cM W o k = x ∧ ∀ o' q, okR q → ¬ (o' = o ∧ q = k) → cM W o' q = cM V o' q) (hx : x = ((10000 * b : Nat) : Int) + ((cl s : Nat) : Int)) (es : ∀ j, 5 ≤ j → s'.2.1 j = s.2.1 j) (e2 : s'.2.1 2 = s.2.1 2) : REm W b (sL s' (100 + 32 * ((s.2.1 2).length - 1) + k) (cl s + 1)) := by
  have h0 := h.1
  have kb : k < 32 := by unfold okR at hk; omega
  have j0 : 100 + 32 * ((s.2.1 2).length - 1) + k < 900 := by omega
  have l2 : (sL s' (100 + 32 * ((s.2.1 2).length - 1) + k) (cl s + 1)).2.1 2 = s.2.1 2 := (sL_o s' _ (by omega)).trans e2
  have nn : ∀ j, 5 ≤ j → ¬ j = 100 + 32 * ((s.2.1 2).length - 1) + k → nL (sL s' (100 + 32 * ((s.2.1 2).length - 1) + k) (cl s + 1)) j = nL s j := fun j h5 hj => (nL_o s' _ hj).trans (congrArg List.length (es j h5))
  have ns : nL (sL s' (100 + 32 * ((s.2.1 2).length - 1) + k) (cl s + 1)) (100 + 32 * ((s.2.1 2).length - 1) + k) = cl s + 1 := nL_s s' _ _
  have ec : cl (sL s' (100 + 32 * ((s.2.1 2).length - 1) + k) (cl s + 1)) = cl s := nn 5 (by decide) (by omega)
  unfold REm
  rw [l2, ec]
  refine ⟨h0, fun c9 hc q hq => ?_, fun j h1 h2 => ?_, fun j h1 h2 => ?_⟩
  · have qb : q < 32 := by unfold okR at hq; omega
    by_cases z : 24 * b + c9 = o ∧ q = k
    · have ec9 : c9 = (s.2.1 2).length - 1 := by omega
      rw [z.1, z.2, c.1, ec9, hx]
      unfold rgm
      rw [ns, if_neg (by omega), Nat.add_sub_cancel]
    · rw [c.2 _ q hq z, h.2.1 c9 hc q hq]
      exact (rgm_e (nn _ (by omega) (by omega))).symm
  · by_cases z : j = 100 + 32 * ((s.2.1 2).length - 1) + k
    · rw [z, ns]
      exact Nat.le_refl _
    · rw [nn j (by omega) z]
      exact h.2.2.1 j h1 h2
  · rw [nn j (by omega) (by omega)]
    exact h.2.2.2 j h1 h2
/-- a component more -/
theorem REm.nm {V : Vf} {b o m : Nat} {sc : Int} {w : Int64} {l : List Nat} {s : St} (h : REm V b s) (ho : o = 24 * b + (s.2.1 2).length) (hl : (s.2.1 2).length < 24) (e56 : (V 32 o).toInt = -1) (e57 : (V 33 o).toInt = -1) (e61 : ∀ q : Nat, (q : Int) < 20 → (V 34 (20 * o + q)).toInt = -1) : REm V b (nmS s m sc w l) := by
  have e : ∀ j, 5 ≤ j → (nmS s m sc w l).2.1 j = s.2.1 j := fun j hj => (show upB s.2.1 2 w j = s.2.1 j from upB_p _ _ _ (by omega))
  have n : ∀ j, 5 ≤ j → nL (nmS s m sc w l) j = nL s j := fun j hj => congrArg List.length (e j hj)
  have l2 : ((nmS s m sc w l).2.1 2).length = (s.2.1 2).length + 1 := (show (upB s.2.1 2 w 2).length = _ from by unfold upB; rw [if_pos rfl, List.length_append]; rfl)
  have ec : cl (nmS s m sc w l) = cl s := n 5 (by decide)
  unfold REm
  rw [l2, ec]
  refine ⟨by omega, fun c hc q hq => ?_, fun j h1 h2 => ?_, fun j h1 h2 => ?_⟩
  · have qb : q < 32 := by unfold okR at hq; omega
    by_cases z : c = (s.2.1 2).length
    · have z0 : nL s (100 + 32 * c + q) = 0 := h.2.2.2 _ (by omega) (by omega)
      unfold rgm
      rw [n _ (by omega), z0, if_pos rfl, z, ← ho]
      unfold cM
      by_cases a : q < 20
      · rw [if_pos a]
        exact e61 q (by omega)
      · rw [if_neg a]
        by_cases a2 : q = 30
        · rw [if_pos a2]
          exact e56
        · rw [if_neg a2]
          exact e57
    · rw [h.2.1 c (by omega) q hq]
      exact (rgm_e (n _ (by omega))).symm
  · rw [n j (by omega)]
    exact h.2.2.1 j h1 h2
  · rw [n j (by omega)]
    exact h.2.2.2 j (by omega) h2
theorem REm.w9 {V : Vf} {b m : Nat} {a : Int} {l : List Nat} {s : St} (h : REm V b s) (hl : s.2.2.1.length < 12) : REm V b (wrS s m a l) := by
  have e2 : (wrS s m a l).2.1 2 = s.2.1 2 := wrS_o s m a l (Or.inl (by omega))
  have n : ∀ j, j < 900 ∨ 2000 ≤ j → nL (wrS s m a l) j = nL s j := fun j q => congrArg List.length (wrS_o s m a l (by omega))
  have h0 := h.1
  have ec : cl (wrS s m a l) = cl s := n 5 (by omega)
  unfold REm
  rw [e2, ec]
  refine ⟨h0, fun c hc q hq => ?_, fun j h1 h2 => ?_, fun j h1 h2 => ?_⟩
  · have b1 : 100 + 32 * c + q < 900 := by unfold okR at hq; omega
    rw [h.2.1 c hc q hq]
    exact (rgm_e (n _ (Or.inl b1))).symm
  · rw [n j (Or.inl h2)]
    exact h.2.2.1 j h1 h2
  · rw [n j (Or.inl h2)]
    exact h.2.2.2 j h1 h2
def WMr (V : Vf) (b : Nat) (s : St) (w : Nat) : Prop := (V 40 (12 * b + w)).toInt = ((nL s (900 + 8 * w) : Nat) : Int) ∧ (V 41 (12 * b + w)).toInt = ((nL s (901 + 8 * w) : Nat) : Int) ∧ (V 42 (12 * b + w)).toInt = ((nL s (902 + 8 * w) : Nat) : Int) ∧ (V 43 (12 * b + w)).toInt = ((nL s (903 + 8 * w) : Nat) : Int) ∧ (V 44 (12 * b + w)).toInt = ((10000 * b : Nat) : Int) + ((nL s (904 + 8 * w) : Nat) : Int)
def WMm (V : Vf) (b : Nat) (s : St) : Prop := s.2.2.1.length ≤ 12 ∧ ∀ w, w < s.2.2.1.length → WMr V b s w
theorem WMm.mv {V W : Vf} {b : Nat} {s s' : St} (h : WMm V b s) (e : ∀ w, w < s.2.2.1.length → ∀ x, 40 ≤ x → x ≤ 44 → W x (12 * b + w) = V x (12 * b + w)) (k : ∀ j, 900 ≤ j → j < 1000 → s'.2.1 j = s.2.1 j) (l : s'.2.2.1 = s.2.2.1) : WMm W b s' := by
  have h0 := h.1
  have n : ∀ j, 900 ≤ j → j < 1000 → nL s' j = nL s j := fun j h1 h2 => congrArg List.length (k j h1 h2)
  unfold WMm
  rw [l]
  refine ⟨h0, fun w hw => ?_⟩
  have y := h.2 w hw
  unfold WMr at y ⊢
  rw [e w hw 40 (by decide) (by decide), e w hw 41 (by decide) (by decide), e w hw 42 (by decide) (by decide), e w hw 43 (by decide) (by decide), e w hw 44 (by decide) (by decide), n (900 + 8 * w) (by omega) (by omega), n (901 + 8 * w) (by omega) (by omega), n (902 + 8 * w) (by omega) (by omega), n (903 + 8 * w) (by omega) (by omega), n (904 + 8 * w) (by omega) (by omega)]
  exact y
theorem keepE.k9 {s s' : St} (h : keepE s s') : ∀ j, 900 ≤ j → j < 1000 → s'.2.1 j = s.2.1 j := fun j h1 h2 => h.2 j (by omega) (by omega)
theorem sL_k9 {s : St} {j0 : Nat} {x : List Int64} (h : j0 < 900) : ∀ j, 900 ≤ j → j < 1000 → (sLl s j0 x).2.1 j = s.2.1 j := fun j h1 h2 => sL_o s x (by omega)
theorem WMm.ag {fs : List (Nat × Nat)} {cs : List Nat} {V W : Vf} {b : Nat} {s s' : St} (h : WMm V b s) (a : agr fs cs V W) (q : ∀ k, wrL fs cs 40 k = false ∧ wrL fs cs 41 k = false ∧ wrL fs cs 42 k = false ∧ wrL fs cs 43 k = false ∧ wrL fs cs 44 k = false) (k : ∀ j, 900 ≤ j → j < 1000 → s'.2.1 j = s.2.1 j) (l : s'.2.2.1 = s.2.2.1) : WMm W b s' := by
  refine h.mv (fun w _ x h1 h2 => a _ _ ?_) k l
  have z := q (12 * b + w)
  rcases (show x = 40 ∨ x = 41 ∨ x = 42 ∨ x = 43 ∨ x = 44 from by omega) with r | r | r | r | r <;> rw [r]
  · exact z.1
  · exact z.2.1
  · exact z.2.2.1
  · exact z.2.2.2.1
  · exact z.2.2.2.2
/-- the places of a wrap that isn't there yet may be written -/
theorem WMm.up {V W : Vf} {b c k : Nat} {v : Int32} {s : St} (h : WMm V b s) (e : W = up2 V c k v) (hk : k = 12 * b + s.2.2.1.length) : WMm W b s :=
  h.mv (fun w hw x _ _ => by rw [e]; exact up2_pl (fun z => by have z2 := z.2; omega)) (fun _ _ _ => rfl) rfl
theorem WMm.wr {V : Vf} {b m f v st p : Nat} {a : Int} {s : St} (h : WMm V b s) (hl : s.2.2.1.length < 12) (hp : p = 12 * b + s.2.2.1.length) (e0 : (V 40 p).toInt = (f : Int)) (e1 : (V 41 p).toInt = (m : Int)) (e2 : (V 42 p).toInt = (v : Int)) (e3 : (V 43 p).toInt = a) (ha : 0 ≤ a) (e4 : (V 44 p).toInt = ((10000 * b : Nat) : Int) + (st : Int)) : WMm V b (wrS s m a [f, v, st]) := by
  have hn : ∀ j, (j < 900 + 8 * s.2.2.1.length ∨ 908 + 8 * s.2.2.1.length ≤ j) → nL (wrS s m a [f, v, st]) j = nL s j := fun j q => congrArg List.length (wrS_o s m a [f, v, st] q)
  have ll : (wrS s m a [f, v, st]).2.2.1.length = s.2.2.1.length + 1 := (show (s.2.2.1 ++ [(m, decide (a = 1))]).length = _ from by rw [List.length_append]; rfl)
  unfold WMm
  rw [ll]
  refine ⟨by omega, fun w hw => ?_⟩
  unfold WMr
  by_cases z : w = s.2.2.1.length
  · have n0 : nL (wrS s m a [f, v, st]) (900 + 8 * w) = f := by rw [z]; exact wrS_i s m a [f, v, st] (i := 0) (by decide)
    have n1 : nL (wrS s m a [f, v, st]) (901 + 8 * w) = m := by rw [z, show 901 + 8 * s.2.2.1.length = 900 + 8 * s.2.2.1.length + 1 from by omega]; exact wrS_i s m a [f, v, st] (i := 1) (by decide)
    have n2 : nL (wrS s m a [f, v, st]) (902 + 8 * w) = v := by rw [z, show 902 + 8 * s.2.2.1.length = 900 + 8 * s.2.2.1.length + 2 from by omega]; exact wrS_i s m a [f, v, st] (i := 2) (by decide)
    have n3 : nL (wrS s m a [f, v, st]) (903 + 8 * w) = a.toNat := by rw [z, show 903 + 8 * s.2.2.1.length = 900 + 8 * s.2.2.1.length + 3 from by omega]; exact wrS_i s m a [f, v, st] (i := 3) (by decide)
    have n4 : nL (wrS s m a [f, v, st]) (904 + 8 * w) = st := by rw [z, show 904 + 8 * s.2.2.1.length = 900 + 8 * s.2.2.1.length + 4 from by omega]; exact wrS_i s m a [f, v, st] (i := 4) (by decide)
    rw [n0, n1, n2, n3, n4, z, ← hp]
    exact ⟨e0, e1, e2, by omega, e4⟩
  · have y := h.2 w (by omega)
    have hb := h.1
    unfold WMr at y
    rw [hn (900 + 8 * w) (Or.inl (by omega)), hn (901 + 8 * w) (Or.inl (by omega)), hn (902 + 8 * w) (Or.inl (by omega)), hn (903 + 8 * w) (Or.inl (by omega)), hn (904 + 8 * w) (Or.inl (by omega))]
    exact y
theorem RelM.wS {V : Vf} {L : Lf} {q n m : Nat} {a : Int} {l : List Nat} {T : Tk} {s : St} {l2 : List Int64} (h : RelM V L q n T (sW s (m, decide (a = 1))) l2) : RelM V L q n T (wrS s m a l) l2 := h.sl rfl (fun j hj => wrS_o s m a l (Or.inl (by omega))) rfl
def CEm (V : Vf) (b : Nat) (s : St) : Prop := CDm V (10000 * b) s ∧ REm V b s ∧ WMm V b s
theorem REm.up {V W : Vf} {b x k : Nat} {v : Int32} {s : St} (h : REm V b s) (e : W = up2 V x k v) (hk : (x = 32 ∨ x = 33) ∧ 24 * b + (s.2.1 2).length ≤ k ∨ x = 34 ∧ 20 * (24 * b + (s.2.1 2).length) ≤ k) : REm W b s := by
  have g : ∀ y j, ¬ (y = x ∧ j = k) → W y j = V y j := fun y j hn => by rw [e]; exact up2_pl hn
  refine h.mv (fun c hc q hq => cM_e (fun q2 => g _ _ (fun z => ?_)) (g _ _ (fun z => ?_)) (g _ _ (fun z => ?_))) keepE.rf rfl
  · have z1 := z.1
    have z2 := z.2
    omega
  · have z1 := z.1
    have z2 := z.2
    omega
  · have z1 := z.1
    have z2 := z.2
    omega
theorem CEm.z {V : Vf} {b : Nat} (h : (V 0 48).toInt = 0) (h2 : (V 0 49).toInt = ((10000 * b : Nat) : Int)) : CEm V b St0 := ⟨⟨h, h2, fun i hi => absurd hi (Nat.not_lt_zero _)⟩, ⟨Nat.zero_le _, fun c hc => absurd hc (Nat.not_lt_zero _), fun j _ _ => Nat.zero_le _, fun j _ _ => rfl⟩, ⟨Nat.zero_le _, fun w hw => absurd hw (Nat.not_lt_zero _)⟩⟩
/-! statements of the reference -/
def OWm (V : Vf) (o : Nat) (s : St) : Prop := (V 27 o).toInt = ((s.1 1 : Nat) : Int) ∧ ((V 32 o).toInt < 0 ↔ s.1 2 ≠ 1) ∧ ((V 33 o).toInt < 0 ↔ s.1 3 ≠ 1) ∧ s.1 4 = 0 ∧ (∀ f, f < 20 → (0 ≤ (V 34 (20 * o + f)).toInt ↔ f ∈ s.2.2.2)) ∧ ∀ f ∈ s.2.2.2, f < (s.2.1 3).length
theorem OWm.mv {V W : Vf} {o : Nat} {s s' : St} (h : OWm V o s) (e27 : W 27 o = V 27 o) (e32 : W 32 o = V 32 o) (e33 : W 33 o = V 33 o) (e34 : ∀ f, f < 20 → W 34 (20 * o + f) = V 34 (20 * o + f)) (k : ∀ i, 1 ≤ i → s'.1 i = s.1 i) (t : s'.2.2 = s.2.2) (l : (s.2.1 3).length ≤ (s'.2.1 3).length) : OWm W o s' := by
  unfold OWm at h ⊢
  rw [e27, e32, e33, k 1 (by decide), k 2 (by decide), k 3 (by decide), k 4 (by decide), t]
  exact ⟨h.1, h.2.1, h.2.2.1, h.2.2.2.1, fun f hf => by rw [e34 f hf]; exact h.2.2.2.2.1 f hf, fun f hf => Nat.lt_of_lt_of_le (h.2.2.2.2.2 f hf) l⟩
theorem RelM.a0 {V W : Vf} {L M : Lf} {q n : Nat} {T : Tk} {s : St} {w : Int64} {a z : Int32} (h : RelM V L q n T s (s.2.1 2)) (f : fndI (s.2.1 0) w = none) (e : M = upL L 14 (Int32.toNatClampNeg a) w) (ha : a.toInt = ((24 * q : Nat) : Int) + (V 13 q).toInt) (ev : W = up2 V 13 q z) (hz : z.toInt = (V 13 q).toInt + 1) (h0 : 0 ≤ (V 13 q).toInt) : RelM W M q n T (sA s 0 w) ((sA s 0 w).2.1 2) := by
  have g : ∀ x, ¬ x = 13 → W x = V x := fun x hx => up2_fo ev hx
  have m : ∀ x, x ≠ 14 → M x = L x := fun x hx => upL_o e hx
  have w13 : W 13 q = z := up2_s ev
  have t := h.2.2.1
  refine ⟨by unfold HDm; rw [g 0 (by decide)]; exact h.1, h.2.1.ag (g 4 (by decide)) (g 5 (by decide)) (m 6 (by decide)) (m 10 (by decide)), ⟨?_, ?_, ?_, ?_, ?_⟩, h.2.2.2.ag (g 39 (by decide)) (g 41 (by decide)) (g 43 (by decide)) rfl⟩
  · rw [w13]
    exact ⟨LSw.ad (a := a.toInt) t.1.1 e ha h0 hz, t.1.2.add f⟩
  · rw [g 16 (by decide), m 17 (by decide)]
    exact t.2.1
  · rw [g 19 (by decide), m 20 (by decide)]
    exact t.2.2.1
  · rw [g 35 (by decide), m 36 (by decide)]
    exact t.2.2.2.1
  · rw [g 37 (by decide), m 38 (by decide)]
    exact t.2.2.2.2
theorem RelM.a1 {V W : Vf} {L M : Lf} {q n : Nat} {T : Tk} {s : St} {w : Int64} {a z : Int32} (h : RelM V L q n T s (s.2.1 2)) (f : fndI (s.2.1 1) w = none) (e : L 17 (Int32.toNatClampNeg a) = w) (ha : a.toInt = ((12 * q : Nat) : Int) + (V 16 q).toInt) (ev : W = up2 V 16 q z) (hz : z.toInt = (V 16 q).toInt + 1) (h0 : 0 ≤ (V 16 q).toInt) (eM : M = L) : RelM W M q n T (sA s 1 w) ((sA s 1 w).2.1 2) := by
  have g : ∀ x, ¬ x = 16 → W x = V x := fun x hx => up2_fo ev hx
  subst eM
  have w16 : W 16 q = z := up2_s ev
  have t := h.2.2.1
  refine ⟨by unfold HDm; rw [g 0 (by decide)]; exact h.1, h.2.1.ag (g 4 (by decide)) (g 5 (by decide)) rfl rfl, ⟨?_, ?_, ?_, ?_, ?_⟩, h.2.2.2.ag (g 39 (by decide)) (g 41 (by decide)) (g 43 (by decide)) rfl⟩
  · rw [g 13 (by decide)]
    exact t.1
  · rw [w16]
    refine ⟨t.2.1.1.add hz ?_ (fun _ _ => rfl), t.2.1.2.add f⟩
    show M 17 (12 * q + (V 16 q).toInt.toNat) = w
    have ea : 12 * q + (V 16 q).toInt.toNat = Int32.toNatClampNeg a := by
      have := i_clamp (x := a) rfl (by (first | exact om_e78a06e61153 ha h0 | omega))
      omega
    rw [ea]
    exact e
  · rw [g 19 (by decide)]
    exact t.2.2.1
  · rw [g 35 (by decide)]
    exact t.2.2.2.1
  · rw [g 37 (by decide)]
    exact t.2.2.2.2
/-- the setting's name is laid ahead of its end: a place that no one reads yet -/
theorem RelM.l17 {V : Vf} {L M : Lf} {q n : Nat} {T : Tk} {s : St} {l2 : List Int64} {w : Int64} {a : Int32} (h : RelM V L q n T s l2) (e : M = upL L 17 (Int32.toNatClampNeg a) w) (ha : a.toInt = ((12 * q : Nat) : Int) + (V 16 q).toInt) (h0 : 0 ≤ (V 16 q).toInt) : RelM V M q n T s l2 := by
  have m : ∀ x, x ≠ 17 → M x = L x := fun x hx => upL_o e hx
  have t := h.2.2.1
  have kc := i_clamp (x := a) rfl (by (first | exact om_e78a06e61153 ha h0 | omega))
  refine ⟨h.1, h.2.1.ag rfl rfl (m 6 (by decide)) (m 10 (by decide)), ⟨?_, ?_, ?_, ?_, ?_⟩, h.2.2.2⟩
  · rw [m 14 (by decide)]
    exact t.1
  · refine ⟨⟨t.2.1.1.1, fun i hi => ?_⟩, t.2.1.2⟩
    have z := t.2.1.1.1
    rw [t.2.1.1.2 i hi]
    show L 17 (12 * q + i) = M 17 (12 * q + i)
    rw [e]
    unfold upL vp_updL
    rw [if_pos rfl, if_neg (by omega)]
  · rw [m 20 (by decide)]
    exact t.2.2.1
  · rw [m 36 (by decide)]
    exact t.2.2.2.1
  · rw [m 38 (by decide)]
    exact t.2.2.2.2
theorem RelM.a2 {V W : Vf} {L M : Lf} {q n : Nat} {T : Tk} {s : St} {l2 : List Int64} {w : Int64} {a z : Int32} (h : RelM V L q n T s l2) (f : fndI l2 w = none) (e : M = upL L 20 (Int32.toNatClampNeg a) w) (ha : a.toInt = ((24 * q : Nat) : Int) + (V 19 q).toInt) (ev : W = up2 V 19 q z) (hz : z.toInt = (V 19 q).toInt + 1) (h0 : 0 ≤ (V 19 q).toInt) : RelM W M q n T s (l2 ++ [w]) := by
  have g : ∀ x, ¬ x = 19 → W x = V x := fun x hx => up2_fo ev hx
  have m : ∀ x, x ≠ 20 → M x = L x := fun x hx => upL_o e hx
  have w19 : W 19 q = z := up2_s ev
  have t := h.2.2.1
  refine ⟨by unfold HDm; rw [g 0 (by decide)]; exact h.1, h.2.1.ag (g 4 (by decide)) (g 5 (by decide)) (m 6 (by decide)) (m 10 (by decide)), ⟨?_, ?_, ?_, ?_, ?_⟩, h.2.2.2.ag (g 39 (by decide)) (g 41 (by decide)) (g 43 (by decide)) rfl⟩
  · rw [g 13 (by decide), m 14 (by decide)]
    exact t.1
  · rw [g 16 (by decide), m 17 (by decide)]
    exact t.2.1
  · rw [w19]
    exact ⟨LSw.ad (a := a.toInt) t.2.2.1.1 e ha h0 hz, t.2.2.1.2.add f⟩
  · rw [g 35 (by decide), m 36 (by decide)]
    exact t.2.2.2.1
  · rw [g 37 (by decide), m 38 (by decide)]
    exact t.2.2.2.2
theorem told_i {s : St} {w : Int64} (h : isTold s w = false) : fndI (s.2.1 0) w = none ∧ fndI (s.2.1 1) w = none ∧ fndI (s.2.1 2) w = none := by
  unfold isTold at h
  rw [Bool.or_eq_false_iff, Bool.or_eq_false_iff] at h
  exact ⟨Option.not_isSome_iff_eq_none.mp (by rw [h.1.1]; decide), Option.not_isSome_iff_eq_none.mp (by rw [h.1.2]; decide), Option.not_isSome_iff_eq_none.mp (by rw [h.2]; decide)⟩
def ARm (s : St) : Prop := ∀ f, arounds s.2.2.1 f ≤ 2
theorem ARm.mv {s s' : St} (h : ARm s) (e : s'.2.2.1 = s.2.2.1) : ARm s' := by
  unfold ARm at h ⊢
  rw [e]
  exact h
theorem OWm.nu {V : Vf} {o : Nat} {s s' : St} (h : OWm V o s) (e : ∀ i, i < 5 → s'.1 i = s.1 i) (e2 : s'.2 = s.2) : OWm V o s' := by
  unfold OWm at h ⊢
  rw [e 1 (by decide), e 2 (by decide), e 3 (by decide), e 4 (by decide), e2]
  exact h


abbrev r_s_expressionA8 : Room := { frames := 93, cells := 0, slots := 0, locals := 2820 }
abbrev q_s_expressionA8 (D : va_G) (ks : KS) (ad : Nat → Nat) (kk : Nat → ClassId) (V : Vf) (L : Lf) (bq : Nat) (gn : Nat) (gT : Tk) (gs : St) (gl : List Int64) (A : Nat → Prop) : Array Value → State → Outcome → State → Prop := q_s_expressionA D ks ad kk V L bq gn gT gs gl 0 A
theorem s_expressionA8 (l : Launch) (D : va_G) (ks : KS) (sz : Nat) (ad : Nat → Nat) (kk : Nat → ClassId) (V : Vf) (L : Lf) (bq : Nat) (gn : Nat) (gT : Tk) (gs : St) (gl : List Int64) (hMV : rgd bM V) (rel : RelM V L bq gn gT gs gl) (c1 : (V 0 48).toInt ≤ 2 * (V 0 7).toInt) (em : EM V gs) (cdm : CDm V (10000 * bq) gs) (yd : (V 0 50).toInt = 0) : Met l yX12_expression (Cond.code yX12_expression cX12_expression 3 none :: GW) r_s_expressionA8 (va_Pc [.ref (ad 0)] (gp D ks (mw ad kk ks.1 V L) (mty kk) sz)) (q_s_expressionA8 D ks ad kk V L bq gn gT gs gl (va_A (mw ad kk ks.1 V L) sz)) 0 0 (va_A (mw ad kk ks.1 V L) sz) :=
  K_exprA 8 sz ad kk V L bq gn gT gs gl 0 hMV rel c1 (by omega) (by omega) em cdm

abbrev r_s_codeA : Room := { frames := 94, cells := 0, slots := 0, locals := 2842 }
abbrev q_s_codeA (D : va_G) (ks : KS) (ad : Nat → Nat) (kk : Nat → ClassId) (V : Vf) (L : Lf) (bq : Nat) (gn : Nat) (gT : Tk) (gs : St) (gl : List Int64) (A : Nat → Prop) : Array Value → State → Outcome → State → Prop := va_Qi (fun (r : Int32) (u : Vf × Lf) => rgd bM u.1 ∧ agr [(0, 7), (0, 8), (0, 48), (0, 50)] [35, 36, 37, 38, 45, 46, 47] V u.1 ∧ agL [35, 36, 37, 38, 45, 46, 47] L u.2 ∧ (0 ≤ r.toInt ∧ r.toInt ≤ 20000) ∧ (Imp ((u.1 0 8).toInt = 0) ((u.1 0 48).toInt - (V 0 48).toInt ≤ 2 * ((u.1 0 7).toInt - (V 0 7).toInt) + 1)) ∧ ((u.1 0 48).toInt ≤ 8060) ∧ ((V 0 48).toInt ≤ (u.1 0 48).toInt) ∧ (r.toInt = (V 0 49).toInt + (V 0 48).toInt) ∧ (RdM gT gs (fun k => Iexpr 0 :: Iem 0 :: k) (fun k => k) (u.1 0 8).toInt (fun s9 => RelM u.1 u.2 bq gn gT s9 gl ∧ keepS gs 1 s9 ∧ keepE gs s9 ∧ CDm u.1 (10000 * bq) s9)) ∧ (RoV 35 bq V u.1) ∧ (RoV 37 bq V u.1) ∧ (RoL 36 20 bq L u.2) ∧ (RoL 38 20 bq L u.2)) (fun u t => gq D A (mw ad kk ks.1 u.1 u.2) (mty kk) t) A
set_option maxHeartbeats 4000000 in
set_option maxRecDepth 100000 in
theorem s_codeA (l : Launch) (D : va_G) (ks : KS) (sz : Nat) (ad : Nat → Nat) (kk : Nat → ClassId) (V : Vf) (L : Lf) (bq : Nat) (gn : Nat) (gT : Tk) (gs : St) (gl : List Int64) (hMV : rgd bM V) (rel : RelM V L bq gn gT gs gl) (c1 : (V 0 48).toInt ≤ 2 * (V 0 7).toInt) (em : EM V gs) (cdm : CDm V (10000 * bq) gs)  : Met l yX12_code (Cond.code yX12_code cX12_code 3 (some .int) :: GW) r_s_codeA (va_Pc [.ref (ad 0)] (gp D ks (mw ad kk ks.1 V L) (mty kk) sz)) (q_s_codeA D ks ad kk V L  bq gn gT gs gl (va_A (mw ad kk ks.1 V L) sz)) 0 0 (va_A (mw ad kk ks.1 V L) sz) := by
  refine g_met (q_s_codeA D ks ad kk V L  bq gn gT gs gl) (by decide) (Nat.le_of_ble_eq_true rfl) ?_
  intro p e s m below meth c A ls H locs hx hb hr hml hown hg hlocks hin hnw hgk hP hK hD hS hA hl
  replace hown : s.vm.findClass RX12 = some m.cls := hown
  replace hl : lv_has ls 3 [(0, .ref (ad 0))] := hl
  replace hP : va_P D vwCl (mw ad kk ks.1 V L) H := hP
  replace hD : va_D A (mw ad kk ks.1 V L) := hD
  replace hK : va_K D vwCl (mty kk) s := hK
  have agV : agr [(0, 7), (0, 8), (0, 48), (0, 50)] [35, 36, 37, 38, 45, 46, 47] V V := agr.rf
  have alL : agL [35, 36, 37, 38, 45, 46, 47] L L := agL.rf
  have r1 : 0 ≤ ((V 0 48)).toInt ∧ ((V 0 48)).toInt ≤ 10000 := hMV 0 48
  have rg0 := RelM.rg rel
  have cl0 := RelM.cl rel
  have cq0 := RelM.cq rel
  refine lv_aload_n hx hb dX12_code_0 rfl (lv_at hl 0 rfl) ?_
  refine va_get (D := D) (ci := 12) (v := .int (V 0 49)) (C := RX12) (T := TX12) (N := 100) hx hb hg inX12 hown hK hP 0 rfl rfl 49 (by decide) (hg _ w1755) (fun _ h9 => h9) rfl dX12_code_1 ?_
  have r2 : 0 ≤ ((V 0 49)).toInt ∧ ((V 0 49)).toInt ≤ 10000 := hMV 0 49
  refine lv_aload_n hx hb dX12_code_4 rfl (lv_at hl 0 rfl) ?_
  refine va_get (D := D) (ci := 12) (v := .int (V 0 48)) (C := RX12) (T := TX12) (N := 100) hx hb hg inX12 hown hK hP 0 rfl rfl 48 (by decide) (hg _ w1754) (fun _ h9 => h9) rfl dX12_code_5 ?_
  refine lv_iadd hx hb dX12_code_8 ?_
  refine lv_topi (fun z3 ez3 => ?_)
  have hz3 : z3.toInt = ((V 0 49)).toInt + ((V 0 48)).toInt := i_add ez3 rfl rfl (by (first | exact om_572394531324 r1.1 r1.2 r2.1 r2.2 | omega))
  refine lv_istore_n (lv' := [(1, .int z3), (0, .ref (ad 0))]) hx hb dX12_code_9 rfl hl (by decide) rfl (fun ls hl => ?_)
  refine lv_aload_n hx hb dX12_code_10 rfl (lv_at hl 1 rfl) ?_
  refine lv_iconst (v := 0) hx hb dX12_code_11 (by decide) ?_
  refine va_put (D := D) (ci := 12) (v := .int 0) (ty := tyX12 50) (C := RX12) (T := TX12) (N := 100) hx hb hg inX12 tyX12 tyX12_ok nmX12 hown hK hP hD hS 0 rfl rfl 50 (by decide) (hg _ w1756) (fun _ h9 => h9) rfl (tyX12_ok 50 (by decide)) rfl rfl (Nat.le_of_ble_eq_true rfl) dX12_code_12 (fun H locs hP hD hS => ?_)
  obtain ⟨V4, hV4⟩ : ∃ z, z = up2 V 0 50 0 := ⟨_, rfl⟩
  have hP : va_P D vwCl (mw ad kk ks.1 V4 L) H := by rw [hV4]; exact hP
  have hD : va_D A (mw ad kk ks.1 V4 L) := by rw [hV4]; exact hD
  have hMV4 : rgd bM V4 := hMV.put hV4 (by decide)
  have agV4 : agr [(0, 7), (0, 8), (0, 48), (0, 50)] [35, 36, 37, 38, 45, 46, 47] V V4 := agV.up hV4 rfl
  refine lv_aload_n hx hb dX12_code_15 rfl (lv_at hl 1 rfl) ?_
  have rl5 : RelM V4 L bq gn gT gs gl := RelM.ag rel (show agr [(0, 50)] [] V V4 from (agr.up agr.rf hV4 rfl)) (by decide) (show agL [] L L from agL.rf) (by decide)
  have hr6 : ∀ k, Rc gT (Crun gs (Iexpr 0 :: Iem 0 :: k)) (Crun gs (Iexpr 0 :: Iem 0 :: k)) := fun k => Rc.rf
  have pq7 : (V4 0 7).toInt = ((V 0 7)).toInt := congrArg Int32.toInt (up2_k hV4 (by decide))
  have pq8 : (V4 0 48).toInt = ((V 0 48)).toInt := congrArg Int32.toInt (up2_k hV4 (by decide))
  have pq9 : (V4 0 50).toInt = 0 := (congrArg Int32.toInt (up2_s hV4)).trans (by decide)
  have cd10 : CDm V4 (10000 * bq) gs := CDm.ag cdm (show agr [(0, 50)] [] V V4 from (agr.up agr.rf hV4 rfl)) ⟨rfl, rfl, fun _ => ⟨rfl, rfl, rfl⟩⟩
  refine gA_void (gA_runV (As := []) (rest := []) (ci := 12) (q0 := 0) hx hb hml hown hg hP hD hK hS hA hnw hgk (s_expressionA8 l D ks H.size ad kk V4 L (bq) (gn) (gT) (gs) (gl) hMV4 rl5 (show (V4 0 48).toInt ≤ 2 * (V4 0 7).toInt from by (first | exact om_e0f1e5fe0646 c1 pq7 pq8 | omega)) (EM.mv em (up2_k hV4 (by decide)) (up2_k hV4 (by decide)) (by rw [(up2_fo hV4 (by decide) : V4 27 = V 27)] : V4 27 = V 27) (fun _ _ => rfl)) cd10 (show (V4 0 50).toInt = 0 from by (first | exact om_b66ba74381d5 pq9 | omega))) w2116 w2118 w106 w172 w2119 rfl rfl hdV_yX12_expression ⟨Nat.le_of_ble_eq_true rfl, Nat.le_of_ble_eq_true rfl⟩ rfl hl.1 rfl (Nat.le_of_ble_eq_true rfl) dX12_code_16 ⟨Nat.le_of_ble_eq_true rfl, Nat.le_of_ble_eq_true rfl⟩) hP hD hK hS hA (fun u12 H locs w13 hP hD hK hS => ?_)
  obtain ⟨V23, L24⟩ := u12
  obtain ⟨hMV23, ajV23, axL24, t14, t15, t16, t17, t18, t19, t20, t21, t22⟩ := w13
  have alL24 : agL [35, 36, 37, 38, 45, 46, 47] L L24 := agL.tr alL axL24 (by decide)
  replace hP : va_P D vwCl (mw ad kk ks.1 V23 L24) H := hP
  replace hD : va_D A (mw ad kk ks.1 V23 L24) := hD
  replace hMV23 : rgd bM V23 := hMV23
  replace ajV23 : agr [(0, 7), (0, 8), (0, 48), (0, 50)] [35, 36, 37, 38, 45, 46, 47] V4 V23 := ajV23
  have agV23 : agr [(0, 7), (0, 8), (0, 48), (0, 50)] [35, 36, 37, 38, 45, 46, 47] V V23 := agV4.tr ajV23 (by decide) (by decide)
  replace t14 : Imp ((V23 0 8).toInt = 0) ((V23 0 48).toInt - (V4 0 48).toInt ≤ 2 * ((V23 0 7).toInt - (V4 0 7).toInt)) := t14
  replace t15 : (V23 0 48).toInt ≤ 8051 - 6 * (V4 0 50).toInt := t15
  replace t16 : (V23 0 50).toInt = (V4 0 50).toInt := t16
  replace t17 : (V4 0 48).toInt ≤ (V23 0 48).toInt := t17
  replace t18 : RdM (gT) (gs) (fun k => Iexpr 0 :: k) (fun k => k) (V23 0 8).toInt (fun s9 => RelM V23 L24 (bq) (gn) (gT) s9 (gl) ∧ keepS (gs) 1 s9 ∧ keepE (gs) s9 ∧ CDm V23 (10000 * (bq)) s9) := t18
  replace t19 : RoV 35 (bq) V4 V23 := t19
  replace t20 : RoV 37 (bq) V4 V23 := t20
  replace t21 : RoL 36 20 (bq) L L24 := t21
  replace t22 : RoL 38 20 (bq) L L24 := t22
  have r25 : 0 ≤ ((V23 0 48)).toInt ∧ ((V23 0 48)).toInt ≤ 10000 := hMV23 0 48
  have r26 : 0 ≤ ((V23 0 8)).toInt ∧ ((V23 0 8)).toInt ≤ 70000 := hMV23 0 8
  have r27 : 0 ≤ ((V23 0 50)).toInt ∧ ((V23 0 50)).toInt ≤ 9 := hMV23 0 50
  rcases t18 with ⟨q28, sx29, h30, rl31, kp32, ke33, cd34⟩ | ⟨q28, h30⟩
  · skip
    have hr35 : ∀ k, Rc gT (Crun gs (Iexpr 0 :: Iem 0 :: k)) (Crun sx29 (Iem 0 :: k)) := fun k => (hr6 k).tr (h30 (Iem 0 :: k))
    have fz36 := RelM.rg rl31
    have ps37 := (kp32).1
    refine lv_aload_n hx hb dX12_code_19 rfl (lv_at hl 1 rfl) ?_
    refine lv_iconst (v := 0) hx hb dX12_code_20 (by decide) ?_
    refine lv_iconst (v := 0) hx hb dX12_code_21 (by decide) ?_
    refine lv_iconst (v := 0) hx hb dX12_code_22 (by decide) ?_
    have r38 : Int32.toInt 0 = 0 := by decide
    refine gA_int (gA_runV (As := [.int 0, .int 0, .int 0]) (rest := []) (ci := 12) (q0 := 0) hx hb hml hown hg hP hD hK hS hA hnw hgk (s_emit3 l D ks H.size ad kk V23 L24 0 0 0 hMV23 (show (V23 0 48).toInt ≤ 9999 from by first | exact om_fd8b4c0e21a5 pq9 t15 | first | omega | ((try (have i_t14 := Imp.go t14 (by omega))); omega))) w2136 w2138 w111 w172 w2139 rfl rfl hdV_yX12_emit ⟨Nat.le_of_ble_eq_true rfl, Nat.le_of_ble_eq_true rfl⟩ rfl hl.1 rfl (Nat.le_of_ble_eq_true rfl) dX12_code_23 ⟨Nat.le_of_ble_eq_true rfl, Nat.le_of_ble_eq_true rfl⟩) hP hD hK hS hA (fun z39 u40 H locs w41 hP hD hK hS => ?_)
    obtain ⟨V45, L46⟩ := u40
    obtain ⟨hMV45, ajV45, axL46, rgz39, t42, t43, t44⟩ := w41
    have axL46 : L24 = L46 := Eq.symm axL46
    subst axL46
    replace hP : va_P D vwCl (mw ad kk ks.1 V45 L24) H := hP
    replace hD : va_D A (mw ad kk ks.1 V45 L24) := hD
    replace hMV45 : rgd bM V45 := hMV45
    replace ajV45 : agr [(0, 48)] [45, 46, 47] V23 V45 := ajV45
    have agV45 : agr [(0, 7), (0, 8), (0, 48), (0, 50)] [35, 36, 37, 38, 45, 46, 47] V V45 := agV23.tr ajV45 (by decide) (by decide)
    replace rgz39 : 0 ≤ z39.toInt ∧ z39.toInt ≤ 20000 := rgz39
    replace t42 : (V45 0 48).toInt = (V23 0 48).toInt + 1 := t42
    replace t43 : z39.toInt = (V23 0 49).toInt + (V23 0 48).toInt := t43
    replace t44 : emitted V23 V45 (pA V23) 0 0 0 := t44
    have r47 : 0 ≤ ((V45 0 48)).toInt ∧ ((V45 0 48)).toInt ≤ 10000 := hMV45 0 48
    have pq48 : (V23 0 49).toInt = ((V 0 49)).toInt := congrArg Int32.toInt ((ajV23 0 49 rfl).trans (up2_k hV4 (by decide)))
    have hr49 : ∀ k, Rc gT (Crun gs (Iexpr 0 :: Iem 0 :: k)) (Crun (emS sx29 0 0 0) (k)) := fun k => Rc.go1 (hr35 k) (m_em 0)
    have rl50 : RelM V45 L24 bq gn gT sx29 gl := RelM.ag rl31 (show agr [(0, 48)] [45, 46, 47] V23 V45 from (agr.tr agr.rf ajV45 (by decide) (by decide))) (by decide) (show agL [] L24 L24 from agL.rf) (by decide)
    have rl51 : RelM V45 L24 bq gn gT (emS sx29 0 0 0) gl := RelM.em rl50
    have ps52 : (emS sx29 0 0 0).1 0 = sx29.1 0 := rfl
    have fz53 := RelM.rg rl51
    have pq54 : (V45 0 8).toInt = ((V23 0 8)).toInt := congrArg Int32.toInt (ajV45 0 8 rfl)
    have pq55 : (V45 0 7).toInt = ((V23 0 7)).toInt := congrArg Int32.toInt (ajV45 0 7 rfl)
    have cd56 : CDm V45 (10000 * bq) (emS sx29 0 0 0) := CDm.e0 cd34 t42 (ajV45 0 49 rfl) t44 (by decide) (by decide) (by decide) (by decide)
    refine lv_istore_n (lv' := [(2, .int z39), (1, .int z3), (0, .ref (ad 0))]) hx hb dX12_code_26 rfl hl (by decide) rfl (fun ls hl => ?_)
    refine lv_iload_n hx hb dX12_code_27 rfl (lv_at hl 1 rfl) ?_
    have pq57 : (V45 0 49).toInt = ((V 0 49)).toInt := congrArg Int32.toInt ((ajV45 0 49 rfl).trans ((ajV23 0 49 rfl).trans (up2_k hV4 (by decide))))
    have rw58 : RoV 35 bq V V45 := (fun k hk => ((ajV45 35 k rfl).trans ((t19 k hk).trans ((up2_o hV4 (by decide)).trans rfl))))
    have rw59 : RoV 37 bq V V45 := (fun k hk => ((ajV45 37 k rfl).trans ((t20 k hk).trans ((up2_o hV4 (by decide)).trans rfl))))
    have rw60 : RoL 36 20 bq L L24 := (fun k hk => ((t21 k hk).trans rfl))
    have rw61 : RoL 38 20 bq L L24 := (fun k hk => ((t22 k hk).trans rfl))
    exact W.iret (v := z3) hx hb hr (fun t ht hW => ⟨⟨z3, (V45, L24), rfl, ⟨hMV45, agV45, alL24, (show 0 ≤ z3.toInt ∧ z3.toInt ≤ 20000 from by first | exact om_1110d94c3a3f r1.1 r2.1 r2.2 hz3 pq8 pq9 t15 t17 | first | omega | ((try (have i_t14 := Imp.go t14 (by omega))); omega)), (Imp.mk (fun hp => have hp : (V45 0 8).toInt = 0 := hp; (show (V45 0 48).toInt - (V 0 48).toInt ≤ 2 * ((V45 0 7).toInt - (V 0 7).toInt) + 1 from by first | exact om_5928716c164b pq7 pq8 t42 pq55 ((Imp.go t14 ((pq54.symm).trans (hp)))) | first | omega | ((try (have i_t14 := Imp.go t14 (by omega))); omega)))), (show (V45 0 48).toInt ≤ 8060 from by first | exact om_af4d6b4dd8f8 pq9 t15 t42 | first | omega | ((try (have i_t14 := Imp.go t14 (by omega))); omega)), (show (V 0 48).toInt ≤ (V45 0 48).toInt from by first | exact om_b7c757868867 pq8 t17 t42 | first | omega | ((try (have i_t14 := Imp.go t14 (by omega))); omega)), (show z3.toInt = (V 0 49).toInt + (V 0 48).toInt from by first | exact om_f1803cbdaa1d hz3 | first | omega | ((try (have i_t14 := Imp.go t14 (by omega))); omega)), (Or.inl ⟨W0 rl51, (emS sx29 0 0 0), hr49, rl51, keepS.le (keepS.tr (keepS.tr (keepS.rf : keepS gs 0 gs) kp32) (show keepS sx29 0 (emS sx29 0 0 0) from keepS.em)) (by decide), (keepE.tr (keepE.tr (keepE.rf : keepE gs gs) ke33) (show keepE sx29 (emS sx29 0 0 0) from keepE.em)), cd56⟩), rw58, rw59, rw60, rw61⟩, by rw [ht]; exact hP, va_K.moved hW.alike hK, hD⟩, hS.F ht⟩) hS.2.2 dX12_code_28
  · skip
    have hb62 : ∀ k, Rc gT (Crun gs (Iexpr 0 :: Iem 0 :: k)) (Cbad (V23 0 8).toInt) := fun k => (hr6 k).tr (h30 (Iem 0 :: k))
    refine lv_aload_n hx hb dX12_code_19 rfl (lv_at hl 1 rfl) ?_
    refine lv_iconst (v := 0) hx hb dX12_code_20 (by decide) ?_
    refine lv_iconst (v := 0) hx hb dX12_code_21 (by decide) ?_
    refine lv_iconst (v := 0) hx hb dX12_code_22 (by decide) ?_
    have r63 : Int32.toInt 0 = 0 := by decide
    refine gA_int (gA_runV (As := [.int 0, .int 0, .int 0]) (rest := []) (ci := 12) (q0 := 0) hx hb hml hown hg hP hD hK hS hA hnw hgk (s_emit3 l D ks H.size ad kk V23 L24 0 0 0 hMV23 (show (V23 0 48).toInt ≤ 9999 from by first | exact om_fd8b4c0e21a5 pq9 t15 | first | omega | ((try (have i_t14 := Imp.go t14 (by omega))); omega))) w2136 w2138 w111 w172 w2139 rfl rfl hdV_yX12_emit ⟨Nat.le_of_ble_eq_true rfl, Nat.le_of_ble_eq_true rfl⟩ rfl hl.1 rfl (Nat.le_of_ble_eq_true rfl) dX12_code_23 ⟨Nat.le_of_ble_eq_true rfl, Nat.le_of_ble_eq_true rfl⟩) hP hD hK hS hA (fun z64 u65 H locs w66 hP hD hK hS => ?_)
    obtain ⟨V70, L71⟩ := u65
    obtain ⟨hMV70, ajV70, axL71, rgz64, t67, t68, t69⟩ := w66
    have axL71 : L24 = L71 := Eq.symm axL71
    subst axL71
    replace hP : va_P D vwCl (mw ad kk ks.1 V70 L24) H := hP
    replace hD : va_D A (mw ad kk ks.1 V70 L24) := hD
    replace hMV70 : rgd bM V70 := hMV70
    replace ajV70 : agr [(0, 48)] [45, 46, 47] V23 V70 := ajV70
    have agV70 : agr [(0, 7), (0, 8), (0, 48), (0, 50)] [35, 36, 37, 38, 45, 46, 47] V V70 := agV23.tr ajV70 (by decide) (by decide)
    replace rgz64 : 0 ≤ z64.toInt ∧ z64.toInt ≤ 20000 := rgz64
    replace t67 : (V70 0 48).toInt = (V23 0 48).toInt + 1 := t67
    replace t68 : z64.toInt = (V23 0 49).toInt + (V23 0 48).toInt := t68
    replace t69 : emitted V23 V70 (pA V23) 0 0 0 := t69
    have r72 : 0 ≤ ((V70 0 48)).toInt ∧ ((V70 0 48)).toInt ≤ 10000 := hMV70 0 48
    have pq73 : (V23 0 49).toInt = ((V 0 49)).toInt := congrArg Int32.toInt ((ajV23 0 49 rfl).trans (up2_k hV4 (by decide)))
    refine lv_istore_n (lv' := [(2, .int z64), (1, .int z3), (0, .ref (ad 0))]) hx hb dX12_code_26 rfl hl (by decide) rfl (fun ls hl => ?_)
    refine lv_iload_n hx hb dX12_code_27 rfl (lv_at hl 1 rfl) ?_
    have pq74 : (V70 0 7).toInt = ((V23 0 7)).toInt := congrArg Int32.toInt (ajV70 0 7 rfl)
    have pq75 : (V70 0 8).toInt = ((V23 0 8)).toInt := congrArg Int32.toInt (ajV70 0 8 rfl)
    have pq76 : (V70 0 49).toInt = ((V 0 49)).toInt := congrArg Int32.toInt ((ajV70 0 49 rfl).trans ((ajV23 0 49 rfl).trans (up2_k hV4 (by decide))))
    have rw77 : RoV 35 bq V V70 := (fun k hk => ((ajV70 35 k rfl).trans ((t19 k hk).trans ((up2_o hV4 (by decide)).trans rfl))))
    have rw78 : RoV 37 bq V V70 := (fun k hk => ((ajV70 37 k rfl).trans ((t20 k hk).trans ((up2_o hV4 (by decide)).trans rfl))))
    have rw79 : RoL 36 20 bq L L24 := (fun k hk => ((t21 k hk).trans rfl))
    have rw80 : RoL 38 20 bq L L24 := (fun k hk => ((t22 k hk).trans rfl))
    exact W.iret (v := z3) hx hb hr (fun t ht hW => ⟨⟨z3, (V70, L24), rfl, ⟨hMV70, agV70, alL24, (show 0 ≤ z3.toInt ∧ z3.toInt ≤ 20000 from by first | exact om_1110d94c3a3f r1.1 r2.1 r2.2 hz3 pq8 pq9 t15 t17 | first | omega | ((try (have i_t14 := Imp.go t14 (by omega))); omega)), (Imp.mk (fun hp => have hp : (V70 0 8).toInt = 0 := hp; (show (V70 0 48).toInt - (V 0 48).toInt ≤ 2 * ((V70 0 7).toInt - (V 0 7).toInt) + 1 from by first | exact om_5928716c164b pq7 pq8 t67 pq74 ((Imp.go t14 ((pq75.symm).trans (hp)))) | first | omega | ((try (have i_t14 := Imp.go t14 (by omega))); omega)))), (show (V70 0 48).toInt ≤ 8060 from by first | exact om_af4d6b4dd8f8 pq9 t15 t67 | first | omega | ((try (have i_t14 := Imp.go t14 (by omega))); omega)), (show (V 0 48).toInt ≤ (V70 0 48).toInt from by first | exact om_b7c757868867 pq8 t17 t67 | first | omega | ((try (have i_t14 := Imp.go t14 (by omega))); omega)), (show z3.toInt = (V 0 49).toInt + (V 0 48).toInt from by first | exact om_f1803cbdaa1d hz3 | first | omega | ((try (have i_t14 := Imp.go t14 (by omega))); omega)), (Or.inr ⟨(show 1 ≤ (V70 0 8).toInt from by omega), (fun k => by rw [show (V70 0 8).toInt = (V23 0 8).toInt from by omega]; exact hb62 k)⟩), rw77, rw78, rw79, rw80⟩, by rw [ht]; exact hP, va_K.moved hW.alike hK, hD⟩, hS.F ht⟩) hS.2.2 dX12_code_28
