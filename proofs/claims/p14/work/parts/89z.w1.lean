/-! two pictures of one heap -/
theorem at_l {D : va_G} {cl : List vw_C} {a n : Nat} {c : ClassId} {f g : Nat → Int64} {H : Heap} (h : va_at D cl (a, .inl (c, n, .inr (.inl f))) H) (h' : va_at D cl (a, .inl (c, n, .inr (.inl g))) H) {k : Nat} (hk : k < n) : f k = g k := by
  have h1 : H[a]? = some (vp_cell c (n, .inr (.inl f))) := h
  have h2 : H[a]? = some (vp_cell c (n, .inr (.inl g))) := h'
  have e := Option.some.inj (h1.symm.trans h2)
  rw [vp_cell_l, vp_cell_l] at e
  have z : (arrV c n (fun j => .long (f j))).slots[k]? = (arrV c n (fun j => .long (g j))).slots[k]? := by rw [e]
  rw [arrV_read _ _ hk, arrV_read _ _ hk] at z
  injection z with z
  injection z with z
theorem at_i {D : va_G} {cl : List vw_C} {a n : Nat} {c : ClassId} {f g : Nat → Int32} {H : Heap} (h : va_at D cl (a, .inl (c, n, .inl f)) H) (h' : va_at D cl (a, .inl (c, n, .inl g)) H) {k : Nat} (hk : k < n) : f k = g k := by
  have h1 : H[a]? = some (vp_cell c (n, .inl f)) := h
  have h2 : H[a]? = some (vp_cell c (n, .inl g)) := h'
  have e := Option.some.inj (h1.symm.trans h2)
  rw [vp_cell_i, vp_cell_i] at e
  have z : (arrV c n (fun j => .int (f j))).slots[k]? = (arrV c n (fun j => .int (g j))).slots[k]? := by rw [e]
  rw [arrV_read _ _ hk, arrV_read _ _ hk] at z
  injection z with z
  injection z with z
theorem at_o {D : va_G} {cl : List vw_C} {a ci : Nat} {fs gs : List Value} {H : Heap} {r : vw_C} (h : va_at D cl (a, .inr (ci, fs)) H) (h' : va_at D cl (a, .inr (ci, gs)) H) (hr : cl[ci]? = some r) {k : Nat} (hk : k < r.2.2) : vp_V fs k = vp_V gs k := by
  obtain ⟨r1, e1, cell, hc, _, _, hs⟩ := h
  obtain ⟨r2, e2, cell', hc', _, _, hs'⟩ := h'
  have q1 := Option.some.inj (e1.symm.trans hr)
  have q2 := Option.some.inj (e2.symm.trans hr)
  have hc : H[a]? = some cell := hc
  have hc' : H[a]? = some cell' := hc'
  have q3 := Option.some.inj (hc.symm.trans hc')
  subst q1 q2 q3
  exact Option.some.inj ((hs k hk).symm.trans (hs' k hk))
def LKc (V : Vf) (L : Lf) (V2 : Vf) (L2 : Lf) : Prop := (∀ i, i < 10 → V2 43 i = V 43 i) ∧ ∀ i k, i < 10 → k < xcap i → L2 44 (24 * i + k) = L 44 (24 * i + k)
theorem LKc.of {D : va_G} {ad : Nat → Nat} {kk : Nat → ClassId} {V V2 : Vf} {L L2 : Lf} {Z : XZ} {H : Heap} (h : va_P D vwCl (xw ad kk V L Z) H) (h' : va_P D vwCl (xw ad kk V2 L2 Z) H) : LKc V L V2 L2 := by
  refine ⟨fun i hi => ?_, fun i k hi hk => ?_⟩
  · have z := at_o (h' _ _ (xgNames hi)) (h _ _ (xgNames hi)) (r := (RX6, TX6, 2)) rfl (k := 1) (by decide)
    have z : Value.int (V2 43 i) = Value.int (V 43 i) := z
    injection z with z
  · have c := (xcap_le i).2
    have z := at_l (h' _ _ (xgwords hi)) (h _ _ (xgwords hi)) hk
    have z : (if k < 24 then L2 44 (24 * i + k) else 0) = (if k < 24 then L 44 (24 * i + k) else 0) := z
    rw [if_pos (by omega), if_pos (by omega)] at z
    exact z
theorem TBc.lk {V V3 : Vf} {L L2 : Lf} {b : Nat} {s : St} (h : TBc V3 L2 b s) (hM : rgd bX V3) (hb : b < 2) (l43 : ∀ i, i < 10 → V3 43 i = V 43 i) (l44 : ∀ i k, i < 10 → k < xcap i → L2 44 (24 * i + k) = L 44 (24 * i + k)) : TBc V L b s := by
  intro j hj
  have z := h j hj
  have c2 : (V3 43 (5 * b + j)).toInt ≤ ((xcap (5 * b + j) : Nat) : Int) := (hM 43 _).2
  have c := z.1
  rw [l43 _ (by omega)] at z c c2
  exact z.row (fun i hi => (l44 _ _ (by omega) (by omega)).symm)
def LKm (V : Vf) (L : Lf) (V2 : Vf) (L2 : Lf) : Prop := (∀ k, k < 2 → V2 13 k = V 13 k ∧ V2 16 k = V 16 k ∧ V2 19 k = V 19 k ∧ V2 35 k = V 35 k ∧ V2 37 k = V 37 k) ∧ (∀ k, k < 48 → L2 14 k = L 14 k ∧ L2 20 k = L 20 k) ∧ (∀ k, k < 24 → L2 17 k = L 17 k) ∧ ∀ k, k < 40 → L2 36 k = L 36 k ∧ L2 38 k = L 38 k
theorem LKm.of {D : va_G} {ad : Nat → Nat} {kk : Nat → ClassId} {k1 : Nat} {V V2 : Vf} {L L2 : Lf} {H : Heap} (h : va_P D vwCl (mw ad kk k1 V L) H) (h' : va_P D vwCl (mw ad kk k1 V2 L2) H) : LKm V L V2 L2 :=
  ⟨fun k hk => ⟨at_i (h' 6 _ rfl) (h 6 _ rfl) hk, at_i (h' 9 _ rfl) (h 9 _ rfl) hk, at_i (h' 12 _ rfl) (h 12 _ rfl) hk, at_i (h' 28 _ rfl) (h 28 _ rfl) hk, at_i (h' 30 _ rfl) (h 30 _ rfl) hk⟩, fun k hk => ⟨at_l (h' 7 _ rfl) (h 7 _ rfl) hk, at_l (h' 13 _ rfl) (h 13 _ rfl) hk⟩, fun k hk => at_l (h' 10 _ rfl) (h 10 _ rfl) hk, fun k hk => ⟨at_l (h' 29 _ rfl) (h 29 _ rfl) hk, at_l (h' 31 _ rfl) (h 31 _ rfl) hk⟩⟩
theorem TBm.lk {V V2 : Vf} {L L2 : Lf} {q : Nat} {s : St} {l2 : List Int64} (h : TBm V2 L2 q s l2) (hM : rgd bM V2) (hq : q < 2) (l : LKm V L V2 L2) : TBm V L q s l2 := by
  obtain ⟨e13, e16, e19, e35, e37⟩ := l.1 q hq
  have b13 : (V2 13 q).toInt ≤ 24 := (hM 13 q).2
  have b16 : (V2 16 q).toInt ≤ 12 := (hM 16 q).2
  have b19 : (V2 19 q).toInt ≤ 24 := (hM 19 q).2
  have b35 : (V2 35 q).toInt ≤ 20 := (hM 35 q).2
  have b37 : (V2 37 q).toInt ≤ 20 := (hM 37 q).2
  obtain ⟨⟨a0, d0⟩, ⟨a1, d1⟩, ⟨a2, d2⟩, ⟨a3, d3⟩, ⟨a4, d4⟩⟩ := h
  have c0 := a0.1
  have c1 := a1.1
  have c2 := a2.1
  have c3 := a3.1
  have c4 := a4.1
  unfold TBm
  rw [← e13, ← e16, ← e19, ← e35, ← e37]
  exact ⟨⟨a0.row (fun i hi => (l.2.1 _ (by omega)).1.symm), d0⟩, ⟨a1.row (fun i hi => (l.2.2.1 _ (by omega)).symm), d1⟩, ⟨a2.row (fun i hi => (l.2.1 _ (by omega)).2.symm), d2⟩, ⟨a3.row (fun i hi => (l.2.2.2 _ (by omega)).1.symm), d3⟩, ⟨a4.row (fun i hi => (l.2.2.2 _ (by omega)).2.symm), d4⟩⟩
theorem Met.bothr {l : Launch} {y : MethodName} {ws : List Cond} {rm : Room} {Pc : Array Value → State → Prop} {S S2 : Type} {p1 : Int32 → S → Prop} {p2 : Int32 → S2 → Prop} {B1 : S → State → Prop} {B2 : S2 → State → Prop} {A : Nat → Prop} {mc ms : Nat} {free : Addr → Prop} (R : S → S2 → Prop) (h1 : Met l y ws rm Pc (va_Qi p1 B1 A) mc ms free) (h2 : Met l y ws rm Pc (va_Qi p2 B2 A) mc ms free) (hB : ∀ u u2 t, B1 u t → B2 u2 t → R u u2) : Met l y ws rm Pc (va_Qi (fun r u => p1 r u ∧ ∃ u2, p2 r u2 ∧ R u u2) B1 A) mc ms free := by
  unfold Met MetFree at h1 h2 ⊢
  intro p e ha hf hc s m args below hfr hS hP hK
  obtain ⟨n, o, w, r, en, q, fr⟩ := h1 p e ha hf hc s m args below hfr hS hP hK
  obtain ⟨n', o', w', r', en', q', fr'⟩ := h2 p e ha hf hc s m args below hfr hS hP hK
  have hn : n = n' := by
    rcases Nat.lt_trichotomy n n' with h | h | h
    · exact absurd (w' n h) en.not_within
    · exact h
    · exact absurd (w n' h) en'.not_within
  subst hn
  have ho := en.outcome_unique en'
  subst ho
  obtain ⟨⟨r1, u1, e1, k1, b1⟩, f1⟩ := q
  obtain ⟨⟨r2, u2, e2, k2, b2⟩, f2⟩ := q'
  have er : r1 = r2 := by
    have z := e1.symm.trans e2
    cases z
    rfl
  subst er
  exact ⟨n, o, w, r, en, ⟨⟨r1, u1, e1, ⟨k1, u2, k2, hB _ _ _ b1 b2⟩, b1⟩, f1⟩, fr⟩



