section
/-! getting, making, closing: the machine's steps and the reference's cells -/
section SKs
variable {B : Bk} {m : Mm} {a : Int32} {fs : List Fr} {c sc lv pl : Int} {o : Nat}
theorem sk_p (hp : plc m (bS B c.toNat) sc = pl) (h : pl < 0) : seekM B m a fs c sc lv = mFail m a 0 14 fs := by
  unfold seekM
  rw [hp, if_pos h]
theorem sk_s (hp : plc m (bS B c.toNat) sc = pl) (h : ¬ pl < 0) (q : m 8 (24 * pl.toNat + c.toNat) ≠ 0) : seekM B m a fs c sc lv = mFail m a 0 15 fs := by
  unfold seekM
  rw [hp, if_neg h, if_pos q]
theorem sk_u (hp : plc m (bS B c.toNat) sc = pl) (h : ¬ pl < 0) (q : ¬ m 8 (24 * pl.toNat + c.toNat) ≠ 0) (z : bS B c.toNat ≠ 3) (x : prs m pl c (m 0 2).toNat = (o : Int)) (w : ¬ m 3 o = 1) : seekM B m a fs c sc lv = mFail m a 0 12 fs := by
  unfold seekM
  rw [hp, if_neg h, if_neg q, x, if_pos ⟨z, Int.natCast_nonneg _⟩, if_neg (show ¬ m 3 ((o : Int)).toNat = 1 from w)]
theorem sk_a (hp : plc m (bS B c.toNat) sc = pl) (h : ¬ pl < 0) (q : ¬ m 8 (24 * pl.toNat + c.toNat) ≠ 0) (z : bS B c.toNat ≠ 3) (x : prs m pl c (m 0 2).toNat = (o : Int)) (w : m 3 o = 1) : seekM B m a fs c sc lv = mAns m (nI o) fs := by
  unfold seekM
  rw [hp, if_neg h, if_neg q, x, if_pos ⟨z, Int.natCast_nonneg _⟩, if_pos (show m 3 ((o : Int)).toNat = 1 from w)]
  rfl
theorem sk_m (hp : plc m (bS B c.toNat) sc = pl) (h : ¬ pl < 0) (q : ¬ m 8 (24 * pl.toNat + c.toNat) ≠ 0) (z : bS B c.toNat = 3 ∨ prs m pl c (m 0 2).toNat < 0) : seekM B m a fs c sc lv = makeM m a fs c pl lv := by
  unfold seekM
  rw [hp, if_neg h, if_neg q, if_neg (fun y => by
    rcases z with z | z
    · exact y.1 z
    · have := y.2
      omega)]
theorem prs_b : ∀ (n : Nat) (o : Nat), prs m pl c n = (o : Int) → o < n ∧ m 1 o = c ∧ m 2 o = pl ∧ m 3 o < 2
  | 0, o, h => by
    have h : (-1 : Int) = (o : Int) := h
    omega
  | n + 1, o, h => by
    by_cases q : m 1 n = c ∧ m 2 n = pl ∧ m 3 n < 2
    · rw [prs_y q.1 q.2.1 q.2.2] at h
      have e : n = o := by omega
      subst e
      exact ⟨by omega, q⟩
    · rw [prs_n q] at h
      have z := prs_b n o h
      exact ⟨by omega, z.2⟩
theorem mk_p (h : ¬ mCan m) : makeM m a fs c pl lv = mSpent m a fs := if_pos h
theorem mk_t (h : mCan m) (q : 300 ≤ m 0 2) : makeM m a fs c pl lv = mFail (mSt m) a 0 16 fs := (if_neg (not_not_intro h)).trans (if_pos q)
theorem mk_g (h : mCan m) (q : ¬ 300 ≤ m 0 2) : makeM m a fs c pl lv = mGo (mNew (mSt m) c pl) a (Fmake lv (m 0 2) c pl 0 0 :: fs) := (if_neg (not_not_intro h)).trans (if_neg q)
end SKs
section MVn
variable {V V1 V2 V3 V4 W : Vf} {sg t k : Int}
theorem mV_join {o q n p r : Nat} {g v : Int32} (e1 : V1 = up2 V 67 p g) (e2 : W = up2 V1 66 r v) (hp : p = 24 * (8 * o + q) + n) (hr : r = 8 * o + q) (hn : (V 66 (8 * o + q)).toInt = (n : Int)) (hv : v.toInt = (n : Int) + 1) : mV W sg t k = mJoin (mV V sg t k) o q g.toInt := by
  have a2 : mV W sg t k = mU (mV V1 sg t k) 6 r v.toInt := mV_up (x := 5) (by decide) rfl e2
  have a1 : mV V1 sg t k = mU (mV V sg t k) 7 p g.toInt := mV_up (x := 6) (by decide) rfl e1
  have n6 : mV V sg t k 6 (8 * o + q) = (n : Int) := hn
  unfold mJoin
  rw [a2, a1, n6, hv, hp, hr]
  rfl
theorem mV_done {o f : Nat} {s1 mk z ov z2 : Int32} (e1 : V1 = up2 V 63 o s1) (e2 : V2 = up2 V1 64 o mk) (e3 : V3 = up2 V2 0 65 z) (e4 : V4 = up2 V3 94 f ov) (e5 : W = up2 V4 0 95 z2) (h1 : s1.toInt = 1) (h2 : mk.toInt = (V 0 65).toInt) (h3 : z.toInt = (V 0 65).toInt + 1) (h4 : ov.toInt = (o : Int)) (h5 : f = (V 0 95).toInt.toNat) (h6 : z2.toInt = (V 0 95).toInt + 1) : mV W sg t k = mDone (mV V sg t k) o := by
  have a5 : mV W sg t k = mU (mV V4 sg t k) 0 4 z2.toInt := mV_n (x := 4) (by decide) rfl e5
  have a4 : mV V4 sg t k = mU (mV V3 sg t k) 5 f ov.toInt := mV_up (x := 4) (by decide) rfl e4
  have a3 : mV V3 sg t k = mU (mV V2 sg t k) 0 3 z.toInt := mV_n (x := 3) (by decide) rfl e3
  have a2 : mV V2 sg t k = mU (mV V1 sg t k) 4 o mk.toInt := mV_up (x := 3) (by decide) rfl e2
  have a1 : mV V1 sg t k = mU (mV V sg t k) 3 o s1.toInt := mV_up (x := 2) (by decide) rfl e1
  have n3 : mV V sg t k 0 3 = (V 0 65).toInt := rfl
  have n4 : mV V sg t k 0 4 = (V 0 95).toInt := rfl
  unfold mDone
  rw [a5, a4, a3, a2, a1, h1, h2, h3, h4, h5, h6, n3, n4]
theorem mV_nt1 {i o : Nat} {w kd z v : Int32} (e1 : V1 = up2 V 74 i w) (e2 : V2 = up2 V1 75 i kd) (e3 : V3 = up2 V2 0 73 z) (e4 : W = up2 V3 63 o v) (hi : i = (V 0 73).toInt.toNat) (hl : (V 0 73).toInt < 300) (hz : z.toInt = (V 0 73).toInt + 1) : mV W sg t k = mU (mNote (mV V sg t k) w.toInt kd.toInt) 3 o v.toInt := by
  have a4 : mV W sg t k = mU (mV V3 sg t k) 3 o v.toInt := mV_up (x := 2) (by decide) rfl e4
  have a3 : mV V3 sg t k = mU (mV V2 sg t k) 0 5 z.toInt := mV_n (x := 5) (by decide) rfl e3
  have a2 : mV V2 sg t k = mU (mV V1 sg t k) 10 i kd.toInt := mV_up (x := 9) (by decide) rfl e2
  have a1 : mV V1 sg t k = mU (mV V sg t k) 9 i w.toInt := mV_up (x := 8) (by decide) rfl e1
  have n5 : mV V sg t k 0 5 = (V 0 73).toInt := rfl
  unfold mNote
  rw [n5, if_pos hl, a4, a3, a2, a1, hz, hi]
theorem mV_nt0 {o : Nat} {x y : Int} {z v : Int32} (e3 : V3 = up2 V 0 73 z) (e4 : W = up2 V3 63 o v) (hl : ¬ (V 0 73).toInt < 300) (hz : z.toInt = (V 0 73).toInt + 1) : mV W sg t k = mU (mNote (mV V sg t k) x y) 3 o v.toInt := by
  have a4 : mV W sg t k = mU (mV V3 sg t k) 3 o v.toInt := mV_up (x := 2) (by decide) rfl e4
  have a3 : mV V3 sg t k = mU (mV V sg t k) 0 5 z.toInt := mV_n (x := 5) (by decide) rfl e3
  have n5 : mV V sg t k 0 5 = (V 0 73).toInt := rfl
  unfold mNote
  rw [n5, if_neg hl, a4, a3, hz]
/-- a new object -/
theorem mV_new {o : Nat} {c pl : Int} (an : agr [(0, 60)] [61, 62, 63, 66] V W) (ho : (V 0 60).toInt = (o : Int)) (h60 : (W 0 60).toInt = (V 0 60).toInt + 1) (f61 : ∀ x, x ≠ o → W 61 x = V 61 x) (n61 : (W 61 o).toInt = c) (f62 : ∀ x, x ≠ o → W 62 x = V 62 x) (n62 : (W 62 o).toInt = pl) (f63 : ∀ x, x ≠ o → W 63 x = V 63 x) (n63 : (W 63 o).toInt = 0) (f66 : ∀ x, x < 8 * o ∨ 8 * o + 8 ≤ x → W 66 x = V 66 x) (n66 : ∀ q, q < 8 → (W 66 (8 * o + q)).toInt = 0) : mV W sg t k = mNew (mV V sg t k) c pl := by
  have en : (mV V sg t k 0 2).toNat = o := by
    show (V 0 60).toInt.toNat = o
    omega
  refine mm_ext (fun j => ?_) (fun y j => ?_)
  · unfold mNew
    by_cases q : j = 2
    · subst q
      rw [if_pos ⟨rfl, rfl⟩]
      exact h60
    · rw [if_neg (fun h => q h.2), if_neg (by omega), if_neg (by omega), if_neg (by omega), if_neg (by omega)]
      rcases (show j = 0 ∨ j = 1 ∨ j = 2 ∨ j = 3 ∨ j = 4 ∨ j = 5 ∨ j = 6 ∨ j = 7 ∨ j = 8 ∨ j = 9 ∨ 10 ≤ j from by omega) with e10 | e10 | e10 | e10 | e10 | e10 | e10 | e10 | e10 | e10 | e10
      · subst e10
        rw [mV_00, mV_00]
        exact congrArg Int32.toInt (an 0 68 rfl)
      · subst e10
        rw [mV_01, mV_01]
        exact congrArg Int32.toInt (an 0 69 rfl)
      · subst e10
        exact absurd rfl q
      · subst e10
        rw [mV_03, mV_03]
        exact congrArg Int32.toInt (an 0 65 rfl)
      · subst e10
        rw [mV_04, mV_04]
        exact congrArg Int32.toInt (an 0 95 rfl)
      · subst e10
        rw [mV_05, mV_05]
        exact congrArg Int32.toInt (an 0 73 rfl)
      · subst e10
        rw [mV_06, mV_06]
      · subst e10
        rw [mV_07, mV_07]
      · subst e10
        rw [mV_08, mV_08]
      · subst e10
        rw [mV_09, mV_09]
      · obtain ⟨y10, rfl⟩ : ∃ y, j = y + 10 := ⟨j - 10, by omega⟩
        rw [mV_0x, mV_0x]
  · unfold mNew
    rw [en, if_neg (show ¬ (y + 1 = 0 ∧ j = 2) from by omega)]
    by_cases c1 : y + 1 = 1 ∧ j = o
    · rw [if_pos c1, show y = 0 from by omega, c1.2]
      exact n61
    · rw [if_neg c1]
      by_cases c2 : y + 1 = 2 ∧ j = o
      · rw [if_pos c2, show y = 1 from by omega, c2.2]
        exact n62
      · rw [if_neg c2]
        by_cases c3 : y + 1 = 3 ∧ j = o
        · rw [if_pos c3, show y = 2 from by omega, c3.2]
          exact n63
        · rw [if_neg c3]
          by_cases c4 : y + 1 = 6 ∧ 8 * o ≤ j ∧ j < 8 * o + 8
          · rw [if_pos c4, show y = 5 from by omega]
            have z := n66 (j - 8 * o) (by omega)
            rw [show 8 * o + (j - 8 * o) = j from by omega] at z
            exact z
          · rw [if_neg c4]
            by_cases hy : y < 13
            · rw [mV_row hy, mV_row hy]
              refine congrArg Int32.toInt ?_
              rcases (show y = 0 ∨ y = 1 ∨ y = 2 ∨ y = 5 ∨ (y ≠ 0 ∧ y ≠ 1 ∧ y ≠ 2 ∧ y ≠ 5) from by omega) with h | h | h | h | h
              · subst h
                exact f61 j (by omega)
              · subst h
                exact f62 j (by omega)
              · subst h
                exact f63 j (by omega)
              · subst h
                exact f66 j (by omega)
              · rcases (show y = 3 ∨ y = 4 ∨ y = 6 ∨ y = 7 ∨ y = 8 ∨ y = 9 ∨ y = 10 ∨ y = 11 ∨ y = 12 from by omega) with e | e | e | e | e | e | e | e | e <;> (subst e; exact an _ _ rfl)
            · rw [mV_big (by omega), mV_big (by omega)]
theorem mab_n {B : Bk} {o : Nat} {o9 c pl : Int} {v : Int32} (e : W = up2 V 63 o v) (hv : v.toInt = 2) (ho : o9.toNat = o) (h : ¬ (sg = 2 ∧ bS B c.toNat ≠ 3 ∧ k ≠ 12 ∧ k ≠ 13 ∧ k ≠ 16)) : mAb B (mV V sg t k) o9 c pl = mV W sg t k := by
  have a1 : mV W sg t k = mU (mV V sg t k) 3 o v.toInt := mV_up (x := 2) (by decide) rfl e
  unfold mAb
  rw [if_neg (show ¬ (mV V sg t k 0 6 = 2 ∧ bS B c.toNat ≠ 3 ∧ mV V sg t k 0 9 ≠ 12 ∧ mV V sg t k 0 9 ≠ 13 ∧ mV V sg t k 0 9 ≠ 16) from h), a1, hv, ho]
theorem mab_y {B : Bk} {o i : Nat} {o9 c pl : Int} {v u : Int32} (e : V1 = up2 V 63 o v) (e2 : W = up2 V1 59 i u) (hv : v.toInt = 2) (hu : u.toInt = 1) (ho : o9.toNat = o) (hi : i = 24 * pl.toNat + c.toNat) (h : sg = 2 ∧ bS B c.toNat ≠ 3 ∧ k ≠ 12 ∧ k ≠ 13 ∧ k ≠ 16) : mAb B (mV V sg t k) o9 c pl = mV W sg t k := by
  have a1 : mV V1 sg t k = mU (mV V sg t k) 3 o v.toInt := mV_up (x := 2) (by decide) rfl e
  have a2 : mV W sg t k = mU (mV V1 sg t k) 8 i u.toInt := mV_up (x := 7) (by decide) rfl e2
  unfold mAb
  rw [if_pos (show mV V sg t k 0 6 = 2 ∧ bS B c.toNat ≠ 3 ∧ mV V sg t k 0 9 ≠ 12 ∧ mV V sg t k 0 9 ≠ 13 ∧ mV V sg t k 0 9 ≠ 16 from h), a2, a1, hv, hu, ho, hi]
end MVn
/-! the next CANDIDATE -/
theorem nxC_f {B : Bk} {c : Nat} : ∀ (f ps it : Nat), 8 ≤ f + ps → nxC B c (f + 1) ps it = nxC B c (f + 2) ps it
  | 0, ps, it, h => by
    unfold nxC
    rw [if_pos (Or.inr (by omega)), if_pos (Or.inr (by omega))]
  | f + 1, ps, it, h => by
    have z := nxC_f (B := B) (c := c) f (ps + 1) 0 (by omega)
    unfold nxC
    by_cases q : bN B c ≤ ps ∨ 8 ≤ ps
    · rw [if_pos q, if_pos q]
    · rw [if_neg q, if_neg q]
      cases (if bK B c ps = 1 then [] else bC B c ps).find? (fun d => decide (it ≤ d ∧ d < 24)) with
      | some d => rfl
      | none => exact z
/-- none left of this need -/
theorem nxC_n {B : Bk} {c ps it : Nat} (h : ps < bN B c) (h8 : ps < 8) (e : (if bK B c ps = 1 then [] else bC B c ps).find? (fun d => decide (it ≤ d ∧ d < 24)) = none) : nxC B c 9 ps it = nxC B c 9 (ps + 1) 0 := by
  have z := nxC_f (B := B) (c := c) 7 (ps + 1) 0 (by omega)
  show nxC B c (8 + 1) ps it = _
  unfold nxC
  rw [if_neg (by omega), e]
  exact z
theorem nxC_l {B : Bk} {c ps it : Nat} (h : ps < bN B c) (h8 : ps < 8) (l : bK B c ps = 1) : nxC B c 9 ps it = nxC B c 9 (ps + 1) 0 := nxC_n h h8 (by rw [if_pos l]; rfl)
theorem nxC_e {B : Bk} {c ps it : Nat} (h : bN B c ≤ ps) : nxC B c 9 ps it = none := by
  show nxC B c (8 + 1) ps it = _
  unfold nxC
  rw [if_pos (Or.inl h)]
section NXs
variable {B : Bk} {c ps it m9 : Nat}
theorem fdC_y {P Q : Nat → Bool} : ∀ (n : Nat), it < n → P it = true → (∀ d, Q d = decide (it ≤ d ∧ d < 24)) → it < 24 → ((List.range n).filter P).find? Q = some it
  | 0, h, _, _, _ => absurd h (Nat.not_lt_zero _)
  | n + 1, h, hp, hq, h24 => by
    rw [List.range_succ, List.filter_append, List.find?_append]
    by_cases e : it = n
    · subst e
      have z : ((List.range it).filter P).find? Q = none := List.find?_eq_none.mpr (fun x hx => by
        rw [hq x]
        have := List.mem_range.mp (List.mem_filter.mp hx).1
        intro w
        have := of_decide_eq_true w
        omega)
      rw [z, List.filter_cons_of_pos hp]
      show List.find? Q (it :: _) = some it
      rw [List.find?_cons_of_pos (by rw [hq]; exact decide_eq_true ⟨Nat.le_refl _, h24⟩)]
    · rw [fdC_y n (by omega) hp hq h24]
      rfl
theorem fdC_s {P : Nat → Bool} {n : Nat} (h : P it = false) : ((List.range n).filter P).find? (fun d => decide (it ≤ d ∧ d < 24)) = ((List.range n).filter P).find? (fun d => decide (it + 1 ≤ d ∧ d < 24)) := by
  have z : ∀ l : List Nat, (∀ x, x ∈ l → P x = true) → l.find? (fun d => decide (it ≤ d ∧ d < 24)) = l.find? (fun d => decide (it + 1 ≤ d ∧ d < 24)) := by
    intro l
    induction l with
    | nil => intro _; rfl
    | cons x l ih =>
      intro hx
      have hx0 := hx x (List.mem_cons_self ..)
      have e : x ≠ it := fun q => by rw [q, h] at hx0; cases hx0
      have i2 := ih (fun y hy => hx y (List.mem_cons_of_mem _ hy))
      by_cases q : it + 1 ≤ x ∧ x < 24
      · rw [List.find?_cons_of_pos (by exact decide_eq_true (show it ≤ x ∧ x < 24 by omega)), List.find?_cons_of_pos (by exact decide_eq_true q)]
      · rw [List.find?_cons_of_neg (by intro w; have := of_decide_eq_true w; omega), List.find?_cons_of_neg (by intro w; exact q (of_decide_eq_true w)), i2]
  exact z _ (fun x hx => (List.mem_filter.mp hx).2)
end NXs
/-! objects under way: what they keep, joined by joined -/
theorem CMPo.cg {V W : Vf} {B : Bk} {o : Nat} (h : CMPo V B o) (bk : BKm V B) (hc : Int32.toNatClampNeg (V 61 o) < nC B) (e61 : W 61 o = V 61 o) (e66 : ∀ k, k < 8 → bK B (Int32.toNatClampNeg (V 61 o)) k ≠ 1 → W 66 (8 * o + k) = V 66 (8 * o + k)) : CMPo W B o := by
  unfold CMPo
  rw [e61]
  intro k hk hl
  have n8 := (bk.2.2.2.1.2.2 _ hc).2.2.1
  rw [e66 k (by unfold bN at hk; omega) hl]
  exact h k hk hl
section RJs
variable {V W : Vf} {B : Bk}
theorem RTn0 {o : Nat} (rt : RT V) (bk : BKm V B) (ho : (o : Int) < (V 0 60).toInt) : Int32.toNatClampNeg (V 61 o) < nC B := by
  have z := (rt.2.2.1 o ho).1
  rw [bk.2.2.2.1.1] at z
  omega
theorem bN8 {c : Nat} (bk : BKm V B) (hc : c < nC B) : bN B c ≤ 8 := by
  have n8 := (bk.2.2.2.1.2.2 _ hc).2.2.1
  unfold bN
  omega
theorem RJm.new {o : Nat} (h : RJm V B) (hM : rgd bM V) (rt : RT V) (bk : BKm V B) (h60 : (W 0 60).toInt = (V 0 60).toInt + 1) (ho : (o : Int) = (V 0 60).toInt) (e95 : W 0 95 = V 0 95) (e94 : ∀ i, W 94 i = V 94 i) (e67 : ∀ i, W 67 i = V 67 i) (f61 : ∀ x, x ≠ o → W 61 x = V 61 x) (hn : Int32.toNatClampNeg (W 61 o) < nC B) (f63 : ∀ x, x ≠ o → W 63 x = V 63 x) (n63 : (W 63 o).toInt = 0) (f66 : ∀ x, x < 8 * o ∨ 8 * o + 8 ≤ x → W 66 x = V 66 x) (n66 : ∀ k, k < 8 → (W 66 (8 * o + k)).toInt = 0) : RJm W B := by
  refine ⟨fun x k hx hk hl => ?_, fun x k i hx hk hi => ?_, fun x hx hs => ?_, fun i hi => ?_⟩
  · by_cases e : x = o
    · rw [e] at hk ⊢
      have k8 := bN8 bk hn
      rw [n66 k (by omega)]
      exact ⟨by omega, fun q => by omega⟩
    · rw [f61 x e] at hk hl ⊢
      have k8 := bN8 bk (RTn0 rt bk (o := x) (by omega))
      rw [f66 _ (by omega)]
      exact h.1 x k (by omega) hk hl
  · by_cases e : x = o
    · rw [e, n66 k hk] at hi
      omega
    · rw [f66 _ (by omega)] at hi
      rw [e67]
      have z := rt.2.2.2.1 x k i (by omega) hk hi
      have z0 : 0 ≤ (V 67 (24 * (8 * x + k) + i)).toInt := (hM 67 _).1
      have zc := i_clamp (x := V 67 (24 * (8 * x + k) + i)) rfl z0
      rw [f63 _ (by omega)]
      exact h.2.1 x k i (by omega) hk hi
  · by_cases e : x = o
    · rw [e, n63] at hs
      omega
    · rw [f63 x e] at hs
      exact (h.2.2.1 x (by omega) hs).cg bk (RTn0 rt bk (by omega)) (f61 x e) (fun k hk _ => f66 _ (by omega))
  · rw [e95] at hi
    rw [e94]
    have z := (rt.2.2.2.2 i hi).1
    have z0 : 0 ≤ (V 94 i).toInt := (hM 94 _).1
    have zc := i_clamp (x := V 94 i) rfl z0
    have e : Int32.toNatClampNeg (V 94 i) ≠ o := by omega
    exact (h.2.2.2 i hi).cg bk (RTn0 rt bk (by omega)) (f61 _ e) (fun k hk _ => f66 _ (by omega))
theorem RJm.join {V1 : Vf} {o k p r : Nat} {g v : Int32} (h : RJm V B) (hM : rgd bM V) (rt : RT V) (bk : BKm V B) (e1 : V1 = up2 V 67 p g) (e2 : W = up2 V1 66 r v) (hr : r = 8 * o + k) (hp : (p : Int) = 24 * (8 * (o : Int) + k) + (V 66 (8 * o + k)).toInt) (hk : k < 8) (hv : v.toInt = (V 66 (8 * o + k)).toInt + 1) (h24 : (V 66 (8 * o + k)).toInt ≤ 23) (hg : 1 ≤ (V 63 (Int32.toNatClampNeg g)).toInt) (hx : bK B (Int32.toNatClampNeg (V 61 o)) k = 1 ∨ (V 63 o).toInt = 0) (hl1 : bK B (Int32.toNatClampNeg (V 61 o)) k = 1 → v.toInt ≤ 1 ∧ (v.toInt = 1 → bS B ((bC B (Int32.toNatClampNeg (V 61 o)) k).headD 0) = 3)) : RJm W B := by
  have a : agr [] [66, 67] V W := agr.up (agr.up agr.rf e1 rfl) e2 rfl
  have h0 : 0 ≤ (V 66 (8 * o + k)).toInt := (hM 66 _).1
  have e66 : ∀ x, x ≠ r → W 66 x = V 66 x := fun x hx => (up2_k e2 hx).trans (up2_o e1 (by decide))
  have cm : ∀ x, CMPo V B x → Int32.toNatClampNeg (V 61 x) < nC B → (x = o → bK B (Int32.toNatClampNeg (V 61 o)) k = 1) → CMPo W B x := fun x hc hn hq => hc.cg bk hn (a 61 _ rfl) (fun k' hk' hl' => e66 _ (fun e => by
    have x1 : x = o := by omega
    have k1 : k' = k := by omega
    rw [x1, k1] at hl'
    exact hl' (hq x1)))
  refine ⟨fun x k' hx' hk' hl' => ?_, fun x k' i hx' hk' hi => ?_, fun x hx' hs => ?_, fun i hi => ?_⟩
  · rw [a 0 60 rfl] at hx'
    rw [a 61 _ rfl] at hk' hl' ⊢
    have k8 := bN8 bk (RTn0 rt bk (o := x) hx')
    by_cases e : 8 * x + k' = r
    · have x1 : x = o := by omega
      have k1 : k' = k := by omega
      subst x1
      subst k1
      rw [e, up2_s e2]
      exact hl1 hl'
    · rw [e66 _ e]
      exact h.1 x k' hx' hk' hl'
  · rw [a 0 60 rfl] at hx'
    have e67 : W 67 (24 * (8 * x + k') + i) = V1 67 (24 * (8 * x + k') + i) := up2_o e2 (by decide)
    rw [e67, a 63 _ rfl]
    by_cases e : 8 * x + k' = r
    · rw [e, up2_s e2] at hi
      by_cases hi2 : 24 * (8 * x + k') + i = p
      · rw [hi2, up2_s e1]
        exact hg
      · rw [up2_k e1 hi2]
        have e3 : 8 * x + k' = 8 * o + k := by omega
        exact h.2.1 x k' i hx' hk' (by rw [e3]; omega)
    · rw [e66 _ e] at hi
      have hb : (V 66 (8 * x + k')).toInt ≤ 24 := (hM 66 _).2
      rw [up2_k e1 (by omega)]
      exact h.2.1 x k' i hx' hk' hi
  · rw [a 0 60 rfl] at hx'
    rw [a 63 _ rfl] at hs
    exact cm x (h.2.2.1 x hx' hs) (RTn0 rt bk hx') (fun e => by
      rcases hx with q | q
      · exact q
      · rw [e] at hs
        omega)
  · rw [a 0 95 rfl] at hi
    rw [a 94 _ rfl]
    have z := rt.2.2.2.2 i hi
    have z0 : 0 ≤ (V 94 i).toInt := (hM 94 _).1
    have zc := i_clamp (x := V 94 i) rfl z0
    exact cm _ (h.2.2.2 i hi) (RTn0 rt bk (by omega)) (fun e => by
      rcases hx with q | q
      · exact q
      · have z2 := z.2
        rw [e] at z2
        omega)
theorem RJm.st {o : Nat} {v : Int32} (h : RJm V B) (e : W = up2 V 63 o v) (hv : 1 ≤ v.toInt) (hc : v.toInt = 1 → CMPo V B o) : RJm W B := by
  have a : agr [] [63] V W := agr.up agr.rf e rfl
  have cm : ∀ x, CMPo V B x → CMPo W B x := fun x hx => by
    unfold CMPo at hx ⊢
    rw [a 61 _ rfl]
    intro k
    rw [a 66 _ rfl]
    exact hx k
  refine ⟨fun x k hx hk hl => ?_, fun x k i hx hk hi => ?_, fun x hx hs => ?_, fun i hi => ?_⟩
  · rw [a 0 60 rfl] at hx
    rw [a 61 _ rfl] at hk hl ⊢
    rw [a 66 _ rfl]
    exact h.1 x k hx hk hl
  · rw [a 0 60 rfl] at hx
    rw [a 66 _ rfl] at hi
    rw [a 67 _ rfl]
    by_cases q : Int32.toNatClampNeg (V 67 (24 * (8 * x + k) + i)) = o
    · rw [q, up2_s e]
      exact hv
    · rw [up2_k e q]
      exact h.2.1 x k i hx hk hi
  · rw [a 0 60 rfl] at hx
    by_cases q : x = o
    · rw [q, up2_s e] at hs
      rw [q]
      exact cm _ (hc hs)
    · rw [up2_k e q] at hs
      exact cm _ (h.2.2.1 x hx hs)
  · rw [a 0 95 rfl] at hi
    rw [a 94 _ rfl]
    exact cm _ (h.2.2.2 i hi)
theorem RJm.more {V1 : Vf} {k : Nat} {ov z : Int32} (h : RJm V B) (e1 : V1 = up2 V 94 k ov) (e2 : W = up2 V1 0 95 z) (hk : (k : Int) = (V 0 95).toInt) (hz : z.toInt = (V 0 95).toInt + 1) (hc : CMPo V B (Int32.toNatClampNeg ov)) : RJm W B := by
  have a : agr [(0, 95)] [94] V W := agr.up (agr.up agr.rf e1 rfl) e2 rfl
  have cm : ∀ x, CMPo V B x → CMPo W B x := fun x hx => by
    unfold CMPo at hx ⊢
    rw [a 61 _ rfl]
    intro k
    rw [a 66 _ rfl]
    exact hx k
  refine ⟨fun x k hx hk hl => ?_, fun x k i hx hk hi => ?_, fun x hx hs => ?_, fun i hi => ?_⟩
  · rw [a 0 60 rfl] at hx
    rw [a 61 _ rfl] at hk hl ⊢
    rw [a 66 _ rfl]
    exact h.1 x k hx hk hl
  · rw [a 0 60 rfl] at hx
    rw [a 66 _ rfl] at hi
    rw [a 67 _ rfl, a 63 _ rfl]
    exact h.2.1 x k i hx hk hi
  · rw [a 0 60 rfl] at hx
    rw [a 63 _ rfl] at hs
    exact cm _ (h.2.2.1 x hx hs)
  · rw [up2_s e2] at hi
    have e94 : W 94 i = V1 94 i := up2_o e2 (by decide)
    rw [e94]
    by_cases q : i = k
    · rw [q, up2_s e1]
      exact cm _ hc
    · rw [up2_k e1 q]
      exact cm _ (h.2.2.2 i (by omega))
theorem agr.d95 {fs : List (Nat × Nat)} {cs : List Nat} {V W : Vf} (a : agr fs cs V W) (e : (W 0 95).toInt = (V 0 95).toInt) : agr (fs.filter (fun y => y != (0, 95))) cs V W := by
  intro c k q
  by_cases h : (c, k) = ((0, 95) : Nat × Nat)
  · have h1 : c = 0 := congrArg Prod.fst h
    have h2 : k = 95 := congrArg Prod.snd h
    subst h1
    subst h2
    exact Int32.toInt_inj.mp e
  · refine a c k ?_
    unfold wrL at q ⊢
    rw [Bool.or_eq_false_iff] at q ⊢
    refine ⟨?_, q.2⟩
    cases z : fs.contains (c, k) with
    | false => rfl
    | true =>
      have m1 : (c, k) ∈ fs := List.contains_iff_mem.mp z
      have m2 : (c, k) ∈ fs.filter (fun y => y != (0, 95)) := List.mem_filter.mpr ⟨m1, bne_iff_ne.mpr h⟩
      have m3 := List.contains_iff_mem.mpr m2
      rw [q.1] at m3
      exact absurd m3 (by decide)
theorem RJm.few {v : Int32} (h : RJm V B) (e : W = up2 V 0 95 v) (hv : v.toInt ≤ (V 0 95).toInt) : RJm W B := by
  have a : agr [(0, 95)] [] V W := agr.up agr.rf e rfl
  have cm : ∀ x, CMPo V B x → CMPo W B x := fun x hx => by
    unfold CMPo at hx ⊢
    rw [a 61 _ rfl]
    intro k
    rw [a 66 _ rfl]
    exact hx k
  refine ⟨fun x k hx hk hl => ?_, fun x k i hx hk hi => ?_, fun x hx hs => ?_, fun i hi => ?_⟩
  · rw [a 0 60 rfl] at hx
    rw [a 61 _ rfl] at hk hl ⊢
    rw [a 66 _ rfl]
    exact h.1 x k hx hk hl
  · rw [a 0 60 rfl] at hx
    rw [a 66 _ rfl] at hi
    rw [a 67 _ rfl, a 63 _ rfl]
    exact h.2.1 x k i hx hk hi
  · rw [a 0 60 rfl] at hx
    rw [a 63 _ rfl] at hs
    exact cm _ (h.2.2.1 x hx hs)
  · rw [up2_s e] at hi
    rw [a 94 _ rfl]
    exact cm _ (h.2.2.2 i (by omega))
/-- how many were made for it: set to what it is -/
theorem mV_95 {sg t k : Int} {v : Int32} (e : W = up2 V 0 95 v) : mV W sg t k = mU (mV V sg t k) 0 4 v.toInt := mV_n (x := 4) (by decide) rfl e
end RJs
/-! the next CANDIDATE, by what the reference asks -/
def cdB (B : Bk) (c ps : Nat) : Nat → Bool := cdP B.1.1 (svB B) (B.1.1 (301 + 32 * c + 4 * ps)) (B.1.1 (300 + 32 * c + 4 * ps)) (B.1.1 (302 + 32 * c + 4 * ps)) (B.1.2.1 2).length
/-- how many below n -/
def cdN (B : Bk) (c ps n : Nat) : Nat := ((List.range n).filter (cdB B c ps)).length
theorem cdN_y {B : Bk} {c ps n : Nat} (h : cdB B c ps n = true) : cdN B c ps (n + 1) = cdN B c ps n + 1 := by
  unfold cdN
  rw [List.range_succ, List.filter_append, List.filter_cons_of_pos h, List.length_append]
  rfl
theorem cdN_n {B : Bk} {c ps n : Nat} (h : cdB B c ps n = false) : cdN B c ps (n + 1) = cdN B c ps n := by
  unfold cdN
  rw [List.range_succ, List.filter_append, List.filter_cons_of_neg (by rw [h]; exact Bool.false_ne_true)]
  exact congrArg List.length (List.append_nil _)
theorem bC_mem {B : Bk} {c ps d : Nat} (hd : d < nC B) (h : cdB B c ps d = true) : d ∈ bC B c ps := List.mem_filter.mpr ⟨List.mem_range.mpr hd, h⟩
theorem nxC_y {B : Bk} {c ps it : Nat} (h : ps < bN B c) (h8 : ps < 8) (l : bK B c ps ≠ 1) (hi : it < nC B) (h24 : it < 24) (q : cdB B c ps it = true) : nxC B c 9 ps it = some (ps, it) := by
  have z : (bC B c ps).find? (fun d => decide (it ≤ d ∧ d < 24)) = some it := fdC_y (P := cdB B c ps) (nC B) hi q (fun _ => rfl) h24
  show nxC B c (8 + 1) ps it = _
  unfold nxC
  rw [if_neg (by omega), if_neg l, z]
theorem nxC_s {B : Bk} {c ps it : Nat} (h : ps < bN B c) (h8 : ps < 8) (q : cdB B c ps it = false) : nxC B c 9 ps it = nxC B c 9 ps (it + 1) := by
  have z : (bC B c ps).find? (fun d => decide (it ≤ d ∧ d < 24)) = (bC B c ps).find? (fun d => decide (it + 1 ≤ d ∧ d < 24)) := fdC_s (P := cdB B c ps) (n := nC B) q
  show nxC B c (8 + 1) ps it = nxC B c (8 + 1) ps (it + 1)
  unfold nxC
  have n9 : ¬ (bN B c ≤ ps ∨ 8 ≤ ps) := by omega
  by_cases l : bK B c ps = 1
  · rw [if_neg n9, if_pos l, if_neg n9]
    rfl
  · rw [if_neg n9, if_neg l, if_neg n9, z]
theorem nxC_x {B : Bk} {c ps it : Nat} (h : ps < bN B c) (h8 : ps < 8) (hi : nC B ≤ it) : nxC B c 9 ps it = nxC B c 9 (ps + 1) 0 := nxC_n h h8 (by
  by_cases l : bK B c ps = 1
  · rw [if_pos l]
    rfl
  · rw [if_neg l]
    refine List.find?_eq_none.mpr (fun x hx => ?_)
    have y : x < nC B := List.mem_range.mp (List.mem_filter.mp (show x ∈ (List.range (nC B)).filter (cdB B c ps) from hx)).1
    intro w
    have := of_decide_eq_true w
    omega)
/-! a making, need by need -/
def JPD (B : Bk) (x : MS) (W : Vf) (r : List Fr) (lv o c pl : Int) (p q : Nat) : Prop := ∃ m a ps it sg t k, TRs B x (m, a, Fmake lv o c pl ps it :: r) ∧ (sg = 0 ∨ sg = 1) ∧ m 0 6 = sg ∧ (if m 0 6 = 1 then mJoin m o.toNat ps.toNat a.toInt else m) = mV W sg t k ∧ (m 0 3 = (W 0 65).toInt ∧ m 0 4 = (W 0 95).toInt) ∧ (sg = 1 → (0 ≤ ps ∧ ps ≤ 7) ∧ 0 ≤ m 6 (8 * o.toNat + ps.toNat) ∧ m 6 (8 * o.toNat + ps.toNat) ≤ 23) ∧ nxC B c.toNat 9 ps.toNat it.toNat = nxC B c.toNat 9 p q
section JPs
variable {B : Bk} {x : MS} {V W : Vf} {r : List Fr} {lv o c pl : Int} {p q : Nat}
theorem JPD.mv {p2 q2 : Nat} (h : JPD B x V r lv o c pl p q) (hm : ∀ sg t k, mV W sg t k = mV V sg t k) (e1 : W 0 65 = V 0 65) (e2 : W 0 95 = V 0 95) (n : nxC B c.toNat 9 p q = nxC B c.toNat 9 p2 q2) : JPD B x W r lv o c pl p2 q2 := by
  obtain ⟨m, a, ps, it, sg, t, k, h1, h2, h3, h4, h5, h6, h7⟩ := h
  exact ⟨m, a, ps, it, sg, t, k, h1, h2, h3, by rw [hm]; exact h4, by rw [e1, e2]; exact h5, h6, h7.trans n⟩
theorem JPD.st0 {t k : Int} {a : Int32} (h : TRs B x (mV W 0 t k, a, Fmake lv o c pl 0 0 :: r)) : JPD B x W r lv o c pl 0 0 :=
  ⟨mV W 0 t k, a, 0, 0, 0, t, k, h, Or.inl rfl, rfl, if_neg (show ¬ (0 : Int) = 1 by decide), ⟨rfl, rfl⟩, fun h9 => absurd h9 (by decide), rfl⟩
/-- one was got: it waits to be joined -/
theorem JPD.st1 {t k : Int} {a : Int32} {p8 it : Nat} (h : TRs B x (mV V 1 t k, a, Fmake lv o c pl (p8 : Int) (it : Int) :: r)) (hp : p8 ≤ 7) (h6 : 0 ≤ (V 66 (8 * o.toNat + p8)).toInt ∧ (V 66 (8 * o.toNat + p8)).toInt ≤ 23) (hj : mV W 1 t k = mJoin (mV V 1 t k) o.toNat p8 a.toInt) (e1 : W 0 65 = V 0 65) (e2 : W 0 95 = V 0 95) : JPD B x W r lv o c pl p8 it :=
  ⟨mV V 1 t k, a, (p8 : Int), (it : Int), 1, t, k, h, Or.inr rfl, rfl, (if_pos (show (1 : Int) = 1 from rfl)).trans hj.symm, by rw [e1, e2]; exact ⟨rfl, rfl⟩, fun _ => ⟨⟨Int.natCast_nonneg _, by omega⟩, h6⟩, rfl⟩
theorem JPD.sf (h : JPD B x W r lv o c pl p q) (h1 : r.length ≤ 394) (h2 : totP r ≤ 2000) (h3 : 0 ≤ (W 0 65).toInt ∧ (W 0 65).toInt ≤ 300) (h4 : (W 0 95).toInt ≤ 299) (h0 : (W 63 o.toNat).toInt = 0) : ∃ m a ps it sg t k, TRs B x (m, a, Fmake lv o c pl ps it :: r) ∧ SF B (m, a, Fmake lv o c pl ps it :: r) ∧ (sg = 0 ∨ sg = 1) ∧ ¬ (m 0 6 = 2 ∨ m 0 6 = 3) ∧ (if m 0 6 = 1 then mJoin m o.toNat ps.toNat a.toInt else m) = mV W sg t k ∧ nxC B c.toNat 9 ps.toNat it.toNat = nxC B c.toNat 9 p q := by
  obtain ⟨m, a, ps, it, sg, t, k, q1, q2, q3, q4, q5, q6, q7⟩ := h
  have e3 : m 3 o.toNat = 0 := by
    have z : (if m 0 6 = 1 then mJoin m o.toNat ps.toNat a.toInt else m) 3 o.toNat = (W 63 o.toNat).toInt := by rw [q4]; rfl
    have y : (if m 0 6 = 1 then mJoin m o.toNat ps.toNat a.toInt else m) 3 o.toNat = m 3 o.toNat := by
      split
      · unfold mJoin
        rw [mU_o _ _ (by omega), mU_o _ _ (by omega)]
      · rfl
    rw [← y, z, h0]
  refine ⟨m, a, ps, it, sg, t, k, q1, SF.mk h1 (show 0 + totP r ≤ 2000 by omega) (by rw [q5.1]; exact h3) (fun h9 => by omega) (show m 0 4 ≤ 299 ∧ (m 0 6 = 1 → (0 ≤ ps ∧ ps ≤ 7) ∧ 0 ≤ m 6 (8 * o.toNat + ps.toNat) ∧ m 6 (8 * o.toNat + ps.toNat) ≤ 23) ∧ m 3 o.toNat = 0 from ⟨by rw [q5.2]; exact h4, fun h9 => q6 (by omega), e3⟩), q2, by omega, q4, q7⟩
theorem JPD.go {y : Nat × Nat} (h : JPD B x W r lv o c pl p q) (h1 : r.length ≤ 394) (h2 : totP r ≤ 2000) (h3 : 0 ≤ (W 0 65).toInt ∧ (W 0 65).toInt ≤ 300) (h4 : (W 0 95).toInt ≤ 299) (h0 : (W 63 o.toNat).toInt = 0) (e : nxC B c.toNat 9 p q = some y) : ∃ sg t k a, (sg = 0 ∨ sg = 1) ∧ TRs B x (seekM B (mV W sg t k) a (Fmake lv o c pl (y.1 : Int) ((y.2 + 1 : Nat) : Int) :: r) (y.2 : Int) pl lv) := by
  obtain ⟨m, a, ps, it, sg, t, k, q1, qs, q2, q3, q4, q7⟩ := h.sf h1 h2 h3 h4 h0
  refine ⟨sg, t, k, a, q2, ?_⟩
  have z := q1.st qs (st_3s q3 (q7.trans e))
  rw [q4] at z
  exact z
theorem JPD.w (h : JPD B x W r lv o c pl p q) (h1 : r.length ≤ 394) (h2 : totP r ≤ 2000) (h3 : 0 ≤ (W 0 65).toInt ∧ (W 0 65).toInt ≤ 300) (h4 : (W 0 95).toInt ≤ 299) (h0 : (W 63 o.toNat).toInt = 0) (e : nxC B c.toNat 9 p q = none) (b : bE B c.toNat 30 ≠ 0) : ∃ t k a, TRs B x (mV W 0 t k, a, Fwork lv o c pl 0 0 ((bE B c.toNat 30 - 1 : Nat) : Int) 0 [] :: Fopen lv o c pl :: r) := by
  obtain ⟨m, a, ps, it, sg, t, k, q1, qs, q2, q3, q4, q7⟩ := h.sf h1 h2 h3 h4 h0
  have z := q1.st qs (st_3w q3 (q7.trans e) b)
  rw [q4, mV_go] at z
  exact ⟨t, k, a, z⟩
theorem JPD.d (h : JPD B x W r lv o c pl p q) (h1 : r.length ≤ 394) (h2 : totP r ≤ 2000) (h3 : 0 ≤ (W 0 65).toInt ∧ (W 0 65).toInt ≤ 300) (h4 : (W 0 95).toInt ≤ 299) (h0 : (W 63 o.toNat).toInt = 0) (e : nxC B c.toNat 9 p q = none) (b : bE B c.toNat 30 = 0) : ∃ sg t k, TRs B x (mAns (mDone (mV W sg t k) o.toNat) (nI o.toNat) r) := by
  obtain ⟨m, a, ps, it, sg, t, k, q1, qs, q2, q3, q4, q7⟩ := h.sf h1 h2 h3 h4 h0
  have z := q1.st qs (st_3d q3 (q7.trans e) b)
  rw [q4] at z
  exact ⟨sg, t, k, z⟩
end JPs
/-- what joining all comes to -/
def JDc (B : Bk) (x : MS) (W : Vf) (r : List Fr) (lv o c pl e bd : Int) : Prop := (e = 0 → ∃ p q, JPD B x W r lv o c pl p q ∧ nxC B c.toNat 9 p q = none) ∧ (e = 1 → ∃ a t k ps it, TRs B x (mV W 2 t k, a, Fmake lv o c pl ps it :: r) ∧ t + 1 = (W 0 90).toInt ∧ k = (W 0 91).toInt ∧ 0 ≤ t ∧ t + 1 ≤ bd) ∧ (e = 2 → ∃ a t k ps it, TRs B x (mV W 3 t k, a, Fmake lv o c pl ps it :: r))
/-- what a closing comes to -/
def DCl (B : Bk) (x : MS) (W : Vf) (r : List Fr) (e : Int) : Prop := ∃ sg t k a, TRs B x (mV W sg t k, a, r) ∧ (e = 1 → sg = 3) ∧ (e = 0 → sg ≠ 3) ∧ (sg = 2 → 0 ≤ t ∧ t ≤ 10000)
theorem nI_cl {x : Int32} (h : 0 ≤ x.toInt) : nI (Int32.toNatClampNeg x) = x := by
  have z := nI_ofz (x := x) rfl h
  exact z
/-- the first CANDIDATE -/
theorem CLV.hd {V : Vf} {c : Nat} {l : List Nat} {n : Int} (h : CLV V c l n) (hl : 1 ≤ l.length) : (V c 0).toInt = ((l.headD 0 : Nat) : Int) := by
  have z := h.2 0 (by omega)
  cases l with
  | nil => cases hl
  | cons y l => exact z
theorem hd_mem {l : List Nat} (h : l.length = 1) : l.headD 0 ∈ l := by
  cases l with
  | nil => cases h
  | cons y l => exact List.mem_cons_self ..
theorem CLV.c0 {V W : Vf} {c : Nat} {l : List Nat} {n : Int} (h : CLV W c l n) (q : n = 0 → W c 0 = V c 0) : W c 0 = V c 0 ∨ ∃ d9 : Nat, (W c 0).toInt = (d9 : Int) ∧ d9 ∈ l := by
  by_cases e : n = 0
  · exact Or.inl (q e)
  · right
    have z := h.1
    have hl : 0 < l.length := by omega
    exact ⟨l[0], h.2 0 hl, List.getElem_mem hl⟩
theorem BKm.thR {V : Vf} {B : Bk} {c : Nat} (h : BKm V B) (wh : WHs B.1) (hn : (B.1.2.1 1).length ≤ 12) (hc : c < nC B) (t : thP B.1.1 (svB B) c = true) : th V c := by
  have k := h.2.2.2.1.2.2 c hc
  have e1 := k.1.2.2.2.2.1
  have e2 := k.1.2.2.2.2.2
  refine ⟨by rw [h.2.2.2.1.1]; omega, ?_⟩
  by_cases q : B.1.1 (64 + 8 * c) = 0
  · left
    omega
  · right
    have w := wh c hc
    have lt : B.1.1 (64 + 8 * c) - 1 < (B.1.2.1 1).length := by omega
    unfold thP at t
    rw [Bool.or_eq_true, beq_iff_eq, beq_iff_eq] at t
    have t2 := t.resolve_left q
    unfold svB at t2
    rw [if_pos lt, ← h.2.2.2.2 _ (by omega), ← e2 q] at t2
    rw [show (V 25 (24 * nwh V + c)).toInt.toNat = B.1.1 (64 + 8 * c) - 1 from by omega]
    exact Int32.toInt_inj.mp t2
/-- whom a need's row begins with, is there -/
theorem c0_of {V W : Vf} {B : Bk} {g : Nat → Nat} {c j : Nat} (bk : BKm V B) (br : BKr B g) (hc : c < nC B) (ht : thP B.1.1 (svB B) c = true) (hj : j < bN B c) (h : W 80 0 = V 80 0 ∨ ∃ d9 : Nat, (W 80 0).toInt = (d9 : Int) ∧ d9 ∈ bC B c j) : c0k V W := by
  rcases h with h | ⟨d, h, m⟩
  · exact Or.inl h
  · right
    have z := (br.2.2.1 c j hc ht hj).2 d m
    have e : cd0 W = d := by
      unfold cd0
      have y := i_clamp (x := W 80 0) rfl (by omega)
      omega
    rw [e]
    exact BKm.thR bk br.2.2.2.2.2.1 br.2.2.2.2.2.2.2.2.1 z.1 z.2.1
/-- opened's E, closed's E -/
theorem BKm.op {V : Vf} {B : Bk} {c : Nat} (h : BKm V B) (hc : c < nC B) : ((V 32 (24 * nwh V + c)).toInt < 0 → bE B c 30 = 0) ∧ (0 ≤ (V 32 (24 * nwh V + c)).toInt → bE B c 30 ≠ 0 ∧ (V 32 (24 * nwh V + c)).toInt = ((10000 * nwh V + (bE B c 30 - 1) : Nat) : Int)) := by
  have z := h.2.1 c hc 30 (by unfold okR; omega)
  unfold cM rgm at z
  rw [if_neg (by decide), if_pos rfl] at z
  rw [bE_i hc (Or.inr (Or.inl rfl))]
  by_cases q : nL B.1 (100 + 32 * c + 30) = 0
  · rw [if_pos q] at z
    exact ⟨fun _ => q, fun h9 => by omega⟩
  · rw [if_neg q] at z
    exact ⟨fun h9 => by omega, fun _ => ⟨q, by omega⟩⟩
theorem BKm.cs {V : Vf} {B : Bk} {c : Nat} (h : BKm V B) (hc : c < nC B) : ((V 33 (24 * nwh V + c)).toInt < 0 → bE B c 31 = 0) ∧ (0 ≤ (V 33 (24 * nwh V + c)).toInt → bE B c 31 ≠ 0 ∧ (V 33 (24 * nwh V + c)).toInt = ((10000 * nwh V + (bE B c 31 - 1) : Nat) : Int)) := by
  have z := h.2.1 c hc 31 (by unfold okR; omega)
  unfold cM rgm at z
  rw [if_neg (by decide), if_neg (by decide)] at z
  rw [bE_i hc (Or.inr (Or.inr rfl))]
  by_cases q : nL B.1 (100 + 32 * c + 31) = 0
  · rw [if_pos q] at z
    exact ⟨fun _ => q, fun h9 => by omega⟩
  · rw [if_neg q] at z
    exact ⟨fun h9 => by omega, fun _ => ⟨q, by omega⟩⟩
theorem mU_id {m : Mm} {c k : Nat} {v : Int} (h : m c k = v) : mU m c k v = m := by
  funext x j
  by_cases q : x = c ∧ j = k
  · rw [q.1, q.2, mU_s, h]
  · rw [mU_o _ _ q]
theorem CMPo.eq {V W : Vf} {B : Bk} {o : Nat} (h : CMPo V B o) (e61 : ∀ k, W 61 k = V 61 k) (e66 : ∀ k, W 66 k = V 66 k) : CMPo W B o := by
  unfold CMPo
  simp only [e61, e66]
  exact h


abbrev r_s_candidatesOf9 : Room := { frames := 2, cells := 0, slots := 0, locals := 45 }
abbrev q_s_candidatesOf9 (D : va_G) (ks : KS) (ad : Nat → Nat) (kk : Nat → ClassId) (V : Vf) (L : Lf) (p0 : Int32) (bq : Nat) (gs : St) (gc : Nat) (gj : Nat) (A : Nat → Prop) : Array Value → State → Outcome → State → Prop := va_Qi (fun (r : Int32) (u : Vf × Lf) => rgd bM u.1 ∧ agr [] [80] V u.1 ∧ u.2 = L ∧ (0 ≤ r.toInt ∧ r.toInt ≤ 24) ∧ (CLV u.1 80 (CLP gs.1 (svm V bq (gs.2.1 1).length) (gs.1 (301 + 32 * gc + 4 * gj)) (gs.1 (300 + 32 * gc + 4 * gj)) (gs.1 (302 + 32 * gc + 4 * gj)) (gs.2.1 2).length (gs.2.1 2).length) r.toInt) ∧ (r.toInt = 0 → u.1 80 0 = V 80 0)) (fun u t => gq D A (mw ad kk ks.1 u.1 u.2) (mty kk) t) A
set_option maxHeartbeats 4000000 in
set_option maxRecDepth 100000 in
theorem s_candidatesOf9 (l : Launch) (D : va_G) (ks : KS) (sz : Nat) (ad : Nat → Nat) (kk : Nat → ClassId) (V : Vf) (L : Lf) (p0 : Int32) (bq : Nat) (gs : St) (gc : Nat) (gj : Nat) (hMV : rgd bM V) (rg_p0 : 0 ≤ p0.toInt ∧ p0.toInt ≤ 383) (zq1 : (bq : Int) = (V 0 11).toInt) (pn : p0.toInt = ((8 * (24 * bq + gc) + gj : Nat) : Int)) (gcl : gc < (gs.2.1 2).length) (gjl : gj < gs.1 (66 + 8 * gc)) (t24 : (gs.1 (300 + 32 * gc + 4 * gj)) < 24) (com : COM V bq gs) (ln : (V 19 bq).toInt = (((gs.2.1 2).length : Nat) : Int)) (wh : WHs gs)  : Met l yX12_candidatesOf (Cond.code yX12_candidatesOf cX12_candidatesOf 5 (some .int) :: GW) r_s_candidatesOf9 (va_Pc [.ref (ad 0), .int p0] (gp D ks (mw ad kk ks.1 V L) (mty kk) sz)) (q_s_candidatesOf9 D ks ad kk V L p0 bq gs gc gj (va_A (mw ad kk ks.1 V L) sz)) 0 0 (va_A (mw ad kk ks.1 V L) sz) := by
  refine g_met (q_s_candidatesOf9 D ks ad kk V L p0 bq gs gc gj) (by decide) (Nat.le_of_ble_eq_true rfl) ?_
  intro p e s m below meth c A ls H locs hx hb hr hml hown hg hlocks hin hnw hgk hP hK hD hS hA hl
  have hown : s.vm.findClass RX12 = some m.cls := hown
  have hl : lv_has ls 5 [(0, .ref (ad 0)), (1, .int p0)] := hl
  have hP : va_P D vwCl (mw ad kk ks.1 V L) H := hP
  have hD : va_D A (mw ad kk ks.1 V L) := hD
  have hK : va_K D vwCl (mty kk) s := hK
  have agV : agr [] [80] V V := agr.rf
  have rf_p0 := i_full p0
  have r1 : 0 ≤ ((V 0 11)).toInt ∧ ((V 0 11)).toInt ≤ 1 := hMV 0 11
  have r2 : 0 ≤ ((V 19 bq)).toInt ∧ ((V 19 bq)).toInt ≤ 24 := hMV 19 bq
  have kb9 : Int32.toNatClampNeg (V 0 11) = bq := by have h9 := i_clamp (x := V 0 11) rfl (by (first | exact om_eafa9039069c r1.1 | omega)); (first | exact om_7d9cc8d6a75e zq1 h9 | omega)
  have q19 : (V 19 (Int32.toNatClampNeg (V 0 11))).toInt = (V 19 bq).toInt := by rw [kb9]
  have kn9 : Int32.toNatClampNeg p0 = 8 * (24 * bq + gc) + gj := by have h9 := i_clamp (x := p0) rfl (by (first | exact om_182388153525 zq1 pn r1.1 | omega)); (first | exact om_36d4c83bf4b2 pn h9 | omega)
  have ne9 := (com gc gcl).2.2.2 gj gjl
  unfold NEm at ne9
  rw [← kn9] at ne9
  have n28 := ne9.1
  have n29 := ne9.2.1
  have n30 := ne9.2.2.1
  have n31 := ne9.2.2.2
  refine lv_iconst (v := 0) hx hb dX12_candidatesOf_0 (by decide) ?_
  refine lv_istore_n (lv' := [(2, .int 0), (0, .ref (ad 0)), (1, .int p0)]) hx hb dX12_candidatesOf_1 rfl hl (by decide) rfl (fun ls hl => ?_)
  refine lv_iconst (v := 0) hx hb dX12_candidatesOf_2 (by decide) ?_
  refine lv_istore_n (lv' := [(3, .int 0), (2, .int 0), (0, .ref (ad 0)), (1, .int p0)]) hx hb dX12_candidatesOf_3 rfl hl (by decide) rfl (fun ls hl => ?_)
  have lp5 : ∀ (fulp5 : Nat) (y3 : Int32) (y4 : Int32) (H : Heap) (locs : List Loc) (ls : Array Slot), 0 ≤ y3.toInt ∧ y3.toInt ≤ 24 → 0 ≤ y4.toInt ∧ y4.toInt ≤ 9 → (y4.toInt = ((bsP gs.1 (svm V bq (gs.2.1 1).length) (gs.1 (300 + 32 * gc + 4 * gj)) (gs.1 (302 + 32 * gc + 4 * gj)) y3.toInt.toNat : Nat) : Int)) → y3.toInt ≤ (((gs.2.1 2).length : Nat) : Int) → 24 - y3.toInt < (fulp5 : Int) → va_P D vwCl (mw ad kk ks.1 V L) H → va_D A (mw ad kk ks.1 V L) → va_S A s.heap H locs → lv_has ls 5 [(3, .int y3), (2, .int y4), (0, .ref (ad 0)), (1, .int p0)] → W p l e r_s_candidatesOf9 s m ([.ref (ad 0), .int p0] : List Value).toArray below meth c H locs 0 0 (MQ below (q_s_candidatesOf9 D ks ad kk V L p0 bq gs gc gj A) ([.ref (ad 0), .int p0] : List Value).toArray s 0 0 A) (F0 m 4 ls []) := by
    intro fulp5
    induction fulp5 with
    | zero =>
      intro y3 y4 H locs ls klp5_0 klp5_1 xlp5_0 xlp5_1 hn  hP hD hS hl
      exfalso; (first | exact om_9386ef0df612 klp5_0.2 hn | omega)
    | succ fulp5 ihlp5 =>
      intro y3 y4 H locs ls klp5_0 klp5_1 xlp5_0 xlp5_1 hn  hP hD hS hl
      refine lv_iload_n hx hb dX12_candidatesOf_4 rfl (lv_at hl 0 rfl) ?_
      refine lv_aload_n hx hb dX12_candidatesOf_5 rfl (lv_at hl 2 rfl) ?_
      refine va_get (D := D) (ci := 12) (v := .ref (ad 19)) (C := RX12) (T := TX12) (N := 100) hx hb hg inX12 hown hK hP 0 rfl rfl 19 (by decide) (hg _ w1725) (fun _ h9 => h9) rfl dX12_candidatesOf_6 ?_
      refine lv_aload_n hx hb dX12_candidatesOf_9 rfl (lv_at hl 2 rfl) ?_
      refine va_get (D := D) (ci := 12) (v := .int (V 0 11)) (C := RX12) (T := TX12) (N := 100) hx hb hg inX12 hown hK hP 0 rfl rfl 11 (by decide) (hg _ w1717) (fun _ h9 => h9) rfl dX12_candidatesOf_10 ?_
      refine va_iald (D := D) (i := (V 0 11)) hx hb hK hP 12 11 rfl rfl (i_in (a := ((V 0 11)).toInt) rfl (by (first | exact om_8367a84723c7 r1.1 r1.2 | omega))) dX12_candidatesOf_13 ?_
      have r6 : 0 ≤ ((V 19 (Int32.toNatClampNeg (V 0 11)))).toInt ∧ ((V 19 (Int32.toNatClampNeg (V 0 11)))).toInt ≤ 24 := hMV 19 (Int32.toNatClampNeg (V 0 11))
      refine lv_icmp_ge (tgt := 69) hx hb dX12_candidatesOf_14 (by decide) (fun c7 => ?_) (fun c7 => ?_)
      · skip
        have f8 : ((V 19 (Int32.toNatClampNeg (V 0 11)))).toInt ≤ y3.toInt := b_le rfl rfl c7
        have bb9 : y4.toInt = ((bsP gs.1 (svm V bq (gs.2.1 1).length) (gs.1 (300 + 32 * gc + 4 * gj)) (gs.1 (302 + 32 * gc + 4 * gj)) (gs.2.1 2).length : Nat) : Int) := by have h9 := xlp5_0; rw [show y3.toInt.toNat = (gs.2.1 2).length from by omega] at h9; exact h9
        refine lv_iconst (v := 0) hx hb dX12_candidatesOf_69 (by decide) ?_
        refine lv_istore_n (lv' := [(3, .int 0), (2, .int y4), (0, .ref (ad 0)), (1, .int p0)]) hx hb dX12_candidatesOf_70 rfl hl (by decide) rfl (fun ls hl => ?_)
        refine lv_iconst (v := 0) hx hb dX12_candidatesOf_71 (by decide) ?_
        refine lv_istore (lv' := [(4, .int 0), (3, .int 0), (2, .int y4), (0, .ref (ad 0)), (1, .int p0)]) hx hb dX12_candidatesOf_72 hl (by decide) rfl (fun ls hl => ?_)
        have lp13 : ∀ (fulp13 : Nat) (y10 : Int32) (y11 : Int32) (V12 : Vf) (H : Heap) (locs : List Loc) (ls : Array Slot), 0 ≤ y10.toInt ∧ y10.toInt ≤ 24 → 0 ≤ y11.toInt ∧ y11.toInt ≤ 24 → (CLV V12 80 (CLP gs.1 (svm V bq (gs.2.1 1).length) (gs.1 (301 + 32 * gc + 4 * gj)) (gs.1 (300 + 32 * gc + 4 * gj)) (gs.1 (302 + 32 * gc + 4 * gj)) (gs.2.1 2).length y10.toInt.toNat) y11.toInt) → y10.toInt ≤ (((gs.2.1 2).length : Nat) : Int) → y11.toInt ≤ y10.toInt → (y11.toInt = 0 → V12 80 0 = V 80 0) → 24 - y10.toInt < (fulp13 : Int) → agr [] [80] V V12 → rgd bM V12 → va_P D vwCl (mw ad kk ks.1 V12 L) H → va_D A (mw ad kk ks.1 V12 L) → va_S A s.heap H locs → lv_has ls 5 [(4, .int y10), (3, .int y11), (2, .int y4), (0, .ref (ad 0)), (1, .int p0)] → W p l e r_s_candidatesOf9 s m ([.ref (ad 0), .int p0] : List Value).toArray below meth c H locs 0 0 (MQ below (q_s_candidatesOf9 D ks ad kk V L p0 bq gs gc gj A) ([.ref (ad 0), .int p0] : List Value).toArray s 0 0 A) (F0 m 74 ls []) := by
          intro fulp13
          induction fulp13 with
          | zero =>
            intro y10 y11 V12 H locs ls klp13_0 klp13_1 xlp13_0 xlp13_1 xlp13_2 xlp13_3 hn ajV12 hMV12 hP hD hS hl
            exfalso; (first | exact om_9386ef0df612 klp13_0.2 hn | omega)
          | succ fulp13 ihlp13 =>
            intro y10 y11 V12 H locs ls klp13_0 klp13_1 xlp13_0 xlp13_1 xlp13_2 xlp13_3 hn ajV12 hMV12 hP hD hS hl
            have agV12 : agr [] [80] V V12 := agV.tr ajV12 (by decide) (by decide)
            refine lv_iload hx hb dX12_candidatesOf_74 (lv_at hl 0 rfl) ?_
            refine lv_aload_n hx hb dX12_candidatesOf_76 rfl (lv_at hl 3 rfl) ?_
            refine va_get (D := D) (ci := 12) (v := .ref (ad 19)) (C := RX12) (T := TX12) (N := 100) hx hb hg inX12 hown hK hP 0 rfl rfl 19 (by decide) (hg _ w1725) (fun _ h9 => h9) rfl dX12_candidatesOf_77 ?_
            refine lv_aload_n hx hb dX12_candidatesOf_80 rfl (lv_at hl 3 rfl) ?_
            refine va_get (D := D) (ci := 12) (v := .int (V12 0 11)) (C := RX12) (T := TX12) (N := 100) hx hb hg inX12 hown hK hP 0 rfl rfl 11 (by decide) (hg _ w1717) (fun _ h9 => h9) rfl dX12_candidatesOf_81 ?_
            refine g_top (v := (V 0 11)) (ajV12 0 11 rfl) ?_
            refine va_iald (D := D) (i := (V 0 11)) hx hb hK hP 12 11 rfl rfl (i_in (a := ((V 0 11)).toInt) rfl (by (first | exact om_8367a84723c7 r1.1 r1.2 | omega))) dX12_candidatesOf_84 ?_
            refine g_top (v := (V 19 (Int32.toNatClampNeg (V 0 11)))) (ajV12 19 (Int32.toNatClampNeg (V 0 11)) rfl) ?_
            refine lv_icmp_ge (tgt := 143) hx hb dX12_candidatesOf_85 (by decide) (fun c14 => ?_) (fun c14 => ?_)
            · skip
              have f15 : ((V 19 (Int32.toNatClampNeg (V 0 11)))).toInt ≤ y10.toInt := b_le rfl rfl c14
              refine lv_iload_n hx hb dX12_candidatesOf_143 rfl (lv_at hl 1 rfl) ?_
              exact W.iret (v := y11) hx hb hr (fun t ht hW => ⟨⟨y11, (V12, L), rfl, ⟨hMV12, agV12, rfl, (show 0 ≤ y11.toInt ∧ y11.toInt ≤ 24 from by (first | exact om_dc10c6d48ea2 ln q19 r6.2 klp13_1.1 xlp13_1 xlp13_2 | omega)), (by have h9 := xlp13_0; rw [show y10.toInt.toNat = (gs.2.1 2).length from by omega] at h9; exact h9), xlp13_3⟩, by rw [ht]; exact hP, va_K.moved hW.alike hK, hD⟩, hS.F ht⟩) hS.2.2 dX12_candidatesOf_144
            · skip
              have f16 : y10.toInt < ((V 19 (Int32.toNatClampNeg (V 0 11)))).toInt := b_nle rfl rfl c14
              have kk17 := i_clamp (x := y10) rfl (by (first | exact om_eafa9039069c klp13_0.1 | omega))
              have cm6 : COM V12 bq gs := COM.ag com (by rw [(funext (fun q => ajV12 21 q rfl) : V12 21 = V 21)] : V12 21 = V 21) (by rw [(funext (fun q => ajV12 22 q rfl) : V12 22 = V 22)] : V12 22 = V 22) (by rw [(funext (fun q => ajV12 23 q rfl) : V12 23 = V 23)] : V12 23 = V 23) (by rw [(funext (fun q => ajV12 24 q rfl) : V12 24 = V 24)] : V12 24 = V 24) (by rw [(funext (fun q => ajV12 25 q rfl) : V12 25 = V 25)] : V12 25 = V 25) (by rw [(funext (fun q => ajV12 26 q rfl) : V12 26 = V 26)] : V12 26 = V 26) (by rw [(funext (fun q => ajV12 27 q rfl) : V12 27 = V 27)] : V12 27 = V 27) (by rw [(funext (fun q => ajV12 28 q rfl) : V12 28 = V 28)] : V12 28 = V 28) (by rw [(funext (fun q => ajV12 29 q rfl) : V12 29 = V 29)] : V12 29 = V 29) (by rw [(funext (fun q => ajV12 30 q rfl) : V12 30 = V 30)] : V12 30 = V 30) (by rw [(funext (fun q => ajV12 31 q rfl) : V12 31 = V 31)] : V12 31 = V 31)
              have sv6 : svm V12 bq (gs.2.1 1).length = svm V bq (gs.2.1 1).length := by unfold svm; rw [(by rw [(funext (fun q => ajV12 18 q rfl) : V12 18 = V 18)] : V12 18 = V 18)]
              refine lv_aload_n hx hb dX12_candidatesOf_88 rfl (lv_at hl 3 rfl) ?_
              refine lv_iload_n hx hb dX12_candidatesOf_89 rfl (lv_at hl 4 rfl) ?_
              refine lv_iload hx hb dX12_candidatesOf_90 (lv_at hl 0 rfl) ?_
              have pq18 : (V12 0 11).toInt = ((V 0 11)).toInt := congrArg Int32.toInt (ajV12 0 11 rfl)
              have pq19 : (V12 19 bq).toInt = ((V 19 bq)).toInt := congrArg Int32.toInt (ajV12 19 bq rfl)
              refine gA_int (gA_runV (As := [.int p0, .int y10]) (rest := []) (ci := 12) (q0 := 0) hx hb hml hown hg hP hD hK hS hA hnw hgk (s_suits6 l D ks H.size ad kk V12 L p0 y10 (bq) (gs) (gc) (gj) ((Int32.toNatClampNeg y10)) hMV12 (by (first | exact om_e937935e9c51 rg_p0.1 rg_p0.2 | omega)) (by (first | exact om_b82ab6f2f50e r2.2 q19 klp13_0.1 f16 | omega)) (show ((bq) : Int) = (V12 0 11).toInt from by (first | exact om_9495d81bd5ca zq1 pq18 | omega)) (show p0.toInt = ((8 * (24 * (bq) + (gc)) + (gj) : Nat) : Int) from by (first | exact om_5c6f91e56a35 pn | omega)) gcl gjl t24 (show y10.toInt = (((Int32.toNatClampNeg y10)) : Int) from by (first | exact om_dadc9969542e kk17 | omega)) (show (Int32.toNatClampNeg y10) < (gs.2.1 2).length from by (first | exact om_2278541b5b9f ln q19 f16 kk17 | omega)) cm6 (show (V12 19 (bq)).toInt = ((((gs).2.1 2).length : Nat) : Int) from by (first | exact om_adf531c77a0d ln pq19 | omega)) wh) w2176 w2178 w120 w172 w2179 rfl rfl hdV_yX12_suits ⟨Nat.le_of_ble_eq_true rfl, Nat.le_of_ble_eq_true rfl⟩ rfl hl.1 rfl (Nat.le_of_ble_eq_true rfl) dX12_candidatesOf_92 ⟨Nat.le_of_ble_eq_true rfl, Nat.le_of_ble_eq_true rfl⟩) hP hD hK hS hA (fun z20 u21 H locs w22 hP hD hK hS => ?_)
              obtain ⟨rgz20, t23⟩ := w22
              have rgz20 : 0 ≤ z20.toInt ∧ z20.toInt ≤ 1 := rgz20
              have t23 : (z20.toInt = 1 ∧ suP (gs).1 (svm V12 (bq) ((gs).2.1 1).length) ((gs).1 (300 + 32 * (gc) + 4 * (gj))) ((gs).1 (302 + 32 * (gc) + 4 * (gj))) ((Int32.toNatClampNeg y10)) = true) ∨ (z20.toInt = 0 ∧ suP (gs).1 (svm V12 (bq) ((gs).2.1 1).length) ((gs).1 (300 + 32 * (gc) + 4 * (gj))) ((gs).1 (302 + 32 * (gc) + 4 * (gj))) ((Int32.toNatClampNeg y10)) = false) := t23
              refine lv_if_eq (tgt := 137) hx hb dX12_candidatesOf_95 (by decide) (fun c24 => ?_) (fun c24 => ?_)
              · skip
                have f25 : z20.toInt = 0 := b_eq rfl (by decide) c24
                obtain ⟨z26, ez26⟩ : ∃ y : Int32, y = y10 + 1 := ⟨_, rfl⟩
                have hz26 : z26.toInt = y10.toInt + 1 := i_add ez26 rfl (by decide) (by (first | exact om_cba3b1702db7 r2.2 q19 klp13_0.1 f16 | omega))
                refine lv_iinc (v := z26) (lv' := [(4, .int z26), (3, .int y11), (2, .int y4), (0, .ref (ad 0)), (1, .int p0)]) hx hb dX12_candidatesOf_137 hl (k := 0) rfl (by rw [ez26]; rfl) (by decide) rfl (fun ls hl => ?_)
                refine lv_goto (tgt := 74) hx hb dX12_candidatesOf_140 (by decide) ?_
                have su27 : suP gs.1 (svm V bq (gs.2.1 1).length) (gs.1 (300 + 32 * gc + 4 * gj)) (gs.1 (302 + 32 * gc + 4 * gj)) (Int32.toNatClampNeg y10) = false := (by have h9 := (t23.resolve_left (fun h9 => by have h8 := h9.1; omega)).2; rw [sv6] at h9; exact h9)
                have em9 : z26.toInt.toNat = (Int32.toNatClampNeg y10) + 1 := by (first | exact om_e74b57b43c73 klp13_0.1 kk17 hz26 | omega)
                have l9 := xlp13_0
                rw [show y10.toInt.toNat = (Int32.toNatClampNeg y10) from rfl] at l9
                have b9 : y4.toInt = ((bsP gs.1 (svm V bq (gs.2.1 1).length) (gs.1 (300 + 32 * gc + 4 * gj)) (gs.1 (302 + 32 * gc + 4 * gj)) (gs.2.1 2).length : Nat) : Int) := bb9
                exact ihlp13 z26 y11 V12 H locs ls (by (first | exact om_03bbbfa61cad r2.2 q19 klp13_0.1 f16 hz26 | omega)) (by (first | exact om_7e2c0121d284 r2.2 q19 klp13_1.1 xlp13_2 f16 | omega)) (by rw [em9, CLP_n (cdP_n su27)]; exact l9) (show z26.toInt ≤ (((gs.2.1 2).length : Nat) : Int) from by (first | exact om_139e70ed6b2e ln q19 f16 hz26 | omega)) (show y11.toInt ≤ z26.toInt from by (first | exact om_f75a30b4c815 xlp13_2 hz26 | omega)) (fun h9 => xlp13_3 (by omega)) (by (first | exact om_9592d9319ffa hn hz26 | omega)) (agr.tr agr.rf ajV12 (by decide) (by decide)) hMV12 hP hD hS (lv_sub hl [0, 1, 2, 3, 4] rfl)
              · skip
                have f28 : z20.toInt ≠ 0 := b_neq rfl (by decide) c24
                refine lv_aload_n hx hb dX12_candidatesOf_98 rfl (lv_at hl 3 rfl) ?_
                refine va_get (D := D) (ci := 12) (v := .ref (ad 30)) (C := RX12) (T := TX12) (N := 100) hx hb hg inX12 hown hK hP 0 rfl rfl 30 (by decide) (hg _ w1736) (fun _ h9 => h9) rfl dX12_candidatesOf_99 ?_
                refine lv_iload_n hx hb dX12_candidatesOf_102 rfl (lv_at hl 4 rfl) ?_
                refine va_zald (D := D) (i := p0) hx hb hK hP 23 22 rfl rfl (i_in (a := p0.toInt) rfl (by (first | exact om_49d8f2f70e9a rg_p0.1 rg_p0.2 | omega))) dX12_candidatesOf_103 ?_
                refine g_top (v := (V 30 (Int32.toNatClampNeg p0))) (ajV12 30 (Int32.toNatClampNeg p0) rfl) ?_
                have r29 : 0 ≤ ((V 30 (Int32.toNatClampNeg p0))).toInt ∧ ((V 30 (Int32.toNatClampNeg p0))).toInt ≤ 1 := hMV 30 (Int32.toNatClampNeg p0)
                refine lv_if_ne (tgt := 126) hx hb dX12_candidatesOf_104 (by decide) (fun c30 => ?_) (fun c30 => ?_)
                · skip
                  have f31 : ((V 30 (Int32.toNatClampNeg p0))).toInt ≠ 0 := b_neq rfl (by decide) c30
                  refine lv_aload_n hx hb dX12_candidatesOf_126 rfl (lv_at hl 3 rfl) ?_
                  refine va_get (D := D) (ci := 12) (v := .ref (ad 80)) (C := RX12) (T := TX12) (N := 100) hx hb hg inX12 hown hK hP 0 rfl rfl 80 (by decide) (hg _ w1786) (fun _ h9 => h9) rfl dX12_candidatesOf_127 ?_
                  refine lv_iload_n hx hb dX12_candidatesOf_130 rfl (lv_at hl 1 rfl) ?_
                  refine lv_iload hx hb dX12_candidatesOf_131 (lv_at hl 0 rfl) ?_
                  refine va_iast (D := D) (i := y11) (x := y10) hx hb hK hP hD hS 57 56 rfl rfl (i_in (a := y11.toInt) rfl (by (first | exact om_97cd09ff96d9 r2.2 q19 klp13_1.1 xlp13_2 f16 | omega))) dX12_candidatesOf_133 (fun H locs hP hD hS => ?_)
                  obtain ⟨V32, hV32⟩ : ∃ z, z = up2 V12 80 (Int32.toNatClampNeg y11) y10 := ⟨_, rfl⟩
                  have hP : va_P D vwCl (mw ad kk ks.1 V32 L) H := by rw [hV32]; exact hP
                  have hD : va_D A (mw ad kk ks.1 V32 L) := by rw [hV32]; exact hD
                  have hMV32 : rgd bM V32 := hMV12.put hV32 (show 0 ≤ y10.toInt ∧ y10.toInt ≤ 23 from by (first | exact om_b82ab6f2f50e r2.2 q19 klp13_0.1 f16 | omega))
                  have agV32 : agr [] [80] V V32 := agV12.up hV32 rfl
                  obtain ⟨z33, ez33⟩ : ∃ y : Int32, y = y11 + 1 := ⟨_, rfl⟩
                  have hz33 : z33.toInt = y11.toInt + 1 := i_add ez33 rfl (by decide) (by (first | exact om_42a03d5ac0bb r2.2 q19 klp13_1.1 xlp13_2 f16 | omega))
                  refine lv_iinc (v := z33) (lv' := [(3, .int z33), (4, .int y10), (2, .int y4), (0, .ref (ad 0)), (1, .int p0)]) hx hb dX12_candidatesOf_134 hl (k := 1) rfl (by rw [ez33]; rfl) (by decide) rfl (fun ls hl => ?_)
                  obtain ⟨z34, ez34⟩ : ∃ y : Int32, y = y10 + 1 := ⟨_, rfl⟩
                  have hz34 : z34.toInt = y10.toInt + 1 := i_add ez34 rfl (by decide) (by (first | exact om_cba3b1702db7 r2.2 q19 klp13_0.1 f16 | omega))
                  refine lv_iinc (v := z34) (lv' := [(4, .int z34), (3, .int z33), (2, .int y4), (0, .ref (ad 0)), (1, .int p0)]) hx hb dX12_candidatesOf_137 hl (k := 1) rfl (by rw [ez34]; rfl) (by decide) rfl (fun ls hl => ?_)
                  refine lv_goto (tgt := 74) hx hb dX12_candidatesOf_140 (by decide) ?_
                  have su35 : suP gs.1 (svm V bq (gs.2.1 1).length) (gs.1 (300 + 32 * gc + 4 * gj)) (gs.1 (302 + 32 * gc + 4 * gj)) (Int32.toNatClampNeg y10) = true := (by have h9 := (t23.resolve_right (fun h9 => by have h8 := h9.1; omega)).2; rw [sv6] at h9; exact h9)
                  have em9 : z34.toInt.toNat = (Int32.toNatClampNeg y10) + 1 := by (first | exact om_e74b57b43c73 klp13_0.1 kk17 hz34 | omega)
                  have l9 := xlp13_0
                  rw [show y10.toInt.toNat = (Int32.toNatClampNeg y10) from rfl] at l9
                  have b9 : y4.toInt = ((bsP gs.1 (svm V bq (gs.2.1 1).length) (gs.1 (300 + 32 * gc + 4 * gj)) (gs.1 (302 + 32 * gc + 4 * gj)) (gs.2.1 2).length : Nat) : Int) := bb9
                  exact ihlp13 z34 z33 V32 H locs ls (by (first | exact om_03bbbfa61cad r2.2 q19 klp13_0.1 f16 hz34 | omega)) (by (first | exact om_fd7621cf2ee5 r2.2 q19 klp13_1.1 xlp13_2 f16 hz33 | omega)) (by rw [em9, CLP_y (cdP_y su35 (Or.inl (n30.mp (by omega))))]; exact CLV.add l9 hV32 (by have h9 := i_clamp (x := y11) rfl (by (first | exact om_eafa9039069c klp13_1.1 | omega)); omega) (by omega) (by omega)) (show z34.toInt ≤ (((gs.2.1 2).length : Nat) : Int) from by (first | exact om_139e70ed6b2e ln q19 f16 hz34 | omega)) (show z33.toInt ≤ z34.toInt from by (first | exact om_953ed16b636a xlp13_2 hz33 hz34 | omega)) (fun h9 => by exfalso; omega) (by (first | exact om_9592d9319ffa hn hz34 | omega)) (agr.up (agr.tr agr.rf ajV12 (by decide) (by decide)) hV32 rfl) hMV32 hP hD hS (lv_sub hl [0, 1, 2, 3, 4] rfl)
                · skip
                  have f36 : ((V 30 (Int32.toNatClampNeg p0))).toInt = 0 := b_eq rfl (by decide) c30
                  refine lv_aload_n hx hb dX12_candidatesOf_107 rfl (lv_at hl 3 rfl) ?_
                  refine va_get (D := D) (ci := 12) (v := .ref (ad 24)) (C := RX12) (T := TX12) (N := 100) hx hb hg inX12 hown hK hP 0 rfl rfl 24 (by decide) (hg _ w1730) (fun _ h9 => h9) rfl dX12_candidatesOf_108 ?_
                  refine lv_bipush (v := 24) hx hb dX12_candidatesOf_111 (by decide) ?_
                  refine lv_aload_n hx hb dX12_candidatesOf_113 rfl (lv_at hl 3 rfl) ?_
                  refine va_get (D := D) (ci := 12) (v := .int (V12 0 11)) (C := RX12) (T := TX12) (N := 100) hx hb hg inX12 hown hK hP 0 rfl rfl 11 (by decide) (hg _ w1717) (fun _ h9 => h9) rfl dX12_candidatesOf_114 ?_
                  refine g_top (v := (V 0 11)) (ajV12 0 11 rfl) ?_
                  refine lv_imul hx hb dX12_candidatesOf_117 ?_
                  refine lv_topi (fun z37 ez37 => ?_)
                  have hz37 : z37.toInt = 24 * ((V 0 11)).toInt := i_mul ez37 (by decide) rfl (by (first | exact om_3f8aba7b6ce1 r1.1 r1.2 | omega))
                  refine lv_iload hx hb dX12_candidatesOf_118 (lv_at hl 0 rfl) ?_
                  refine lv_iadd hx hb dX12_candidatesOf_120 ?_
                  refine lv_topi (fun z38 ez38 => ?_)
                  have hz38 : z38.toInt = z37.toInt + y10.toInt := i_add ez38 rfl rfl (by (first | exact om_05b2ab89c241 r1.1 r1.2 r2.2 q19 klp13_0.1 f16 hz37 | omega))
                  have kr6 : Int32.toNatClampNeg z38 = 24 * bq + (Int32.toNatClampNeg y10) := by have h9 := i_clamp (x := z38) rfl (by (first | exact om_19aed6992cbe r1.1 klp13_0.1 hz37 hz38 | omega)); (first | exact om_4c29053cab98 zq1 kk17 hz37 hz38 h9 | omega)
                  have r24 : (V 24 (Int32.toNatClampNeg z38)).toInt = ((gs.1 (63 + 8 * (Int32.toNatClampNeg y10)) : Nat) : Int) := by rw [kr6]; exact (com (Int32.toNatClampNeg y10) (by omega)).1.2.2.2.1
                  refine va_iald (D := D) (i := z38) hx hb hK hP 17 16 rfl rfl (i_in (a := z38.toInt) rfl (by (first | exact om_8dcc3627f11a r1.1 r1.2 r2.2 q19 klp13_0.1 f16 hz37 hz38 | omega))) dX12_candidatesOf_121 ?_
                  refine g_top (v := (V 24 (Int32.toNatClampNeg z38))) (ajV12 24 (Int32.toNatClampNeg z38) rfl) ?_
                  have r39 : 0 ≤ ((V 24 (Int32.toNatClampNeg z38))).toInt ∧ ((V 24 (Int32.toNatClampNeg z38))).toInt ≤ 9 := hMV 24 (Int32.toNatClampNeg z38)
                  refine lv_iload_n hx hb dX12_candidatesOf_122 rfl (lv_at hl 2 rfl) ?_
                  refine lv_icmp_ne (tgt := 137) hx hb dX12_candidatesOf_123 (by decide) (fun c40 => ?_) (fun c40 => ?_)
                  · skip
                    have f41 : ((V 24 (Int32.toNatClampNeg z38))).toInt ≠ y4.toInt := b_neq rfl rfl c40
                    obtain ⟨z42, ez42⟩ : ∃ y : Int32, y = y10 + 1 := ⟨_, rfl⟩
                    have hz42 : z42.toInt = y10.toInt + 1 := i_add ez42 rfl (by decide) (by (first | exact om_cba3b1702db7 r2.2 q19 klp13_0.1 f16 | omega))
                    refine lv_iinc (v := z42) (lv' := [(4, .int z42), (3, .int y11), (2, .int y4), (0, .ref (ad 0)), (1, .int p0)]) hx hb dX12_candidatesOf_137 hl (k := 0) rfl (by rw [ez42]; rfl) (by decide) rfl (fun ls hl => ?_)
                    refine lv_goto (tgt := 74) hx hb dX12_candidatesOf_140 (by decide) ?_
                    have su43 : suP gs.1 (svm V bq (gs.2.1 1).length) (gs.1 (300 + 32 * gc + 4 * gj)) (gs.1 (302 + 32 * gc + 4 * gj)) (Int32.toNatClampNeg y10) = true := (by have h9 := (t23.resolve_right (fun h9 => by have h8 := h9.1; omega)).2; rw [sv6] at h9; exact h9)
                    have em9 : z42.toInt.toNat = (Int32.toNatClampNeg y10) + 1 := by (first | exact om_e74b57b43c73 klp13_0.1 kk17 hz42 | omega)
                    have l9 := xlp13_0
                    rw [show y10.toInt.toNat = (Int32.toNatClampNeg y10) from rfl] at l9
                    have b9 : y4.toInt = ((bsP gs.1 (svm V bq (gs.2.1 1).length) (gs.1 (300 + 32 * gc + 4 * gj)) (gs.1 (302 + 32 * gc + 4 * gj)) (gs.2.1 2).length : Nat) : Int) := bb9
                    exact ihlp13 z42 y11 V12 H locs ls (by (first | exact om_03bbbfa61cad r2.2 q19 klp13_0.1 f16 hz42 | omega)) (by (first | exact om_7e2c0121d284 r2.2 q19 klp13_1.1 xlp13_2 f16 | omega)) (by rw [em9, CLP_n (cdP_no (fun h9 => absurd (n30.mpr h9) (by omega)) (by omega))]; exact l9) (show z42.toInt ≤ (((gs.2.1 2).length : Nat) : Int) from by (first | exact om_139e70ed6b2e ln q19 f16 hz42 | omega)) (show y11.toInt ≤ z42.toInt from by (first | exact om_f75a30b4c815 xlp13_2 hz42 | omega)) (fun h9 => xlp13_3 (by omega)) (by (first | exact om_9592d9319ffa hn hz42 | omega)) (agr.tr agr.rf ajV12 (by decide) (by decide)) hMV12 hP hD hS (lv_sub hl [0, 1, 2, 3, 4] rfl)
                  · skip
                    have f44 : ((V 24 (Int32.toNatClampNeg z38))).toInt = y4.toInt := b_eq rfl rfl c40
                    refine lv_aload_n hx hb dX12_candidatesOf_126 rfl (lv_at hl 3 rfl) ?_
                    refine va_get (D := D) (ci := 12) (v := .ref (ad 80)) (C := RX12) (T := TX12) (N := 100) hx hb hg inX12 hown hK hP 0 rfl rfl 80 (by decide) (hg _ w1786) (fun _ h9 => h9) rfl dX12_candidatesOf_127 ?_
                    refine lv_iload_n hx hb dX12_candidatesOf_130 rfl (lv_at hl 1 rfl) ?_
                    refine lv_iload hx hb dX12_candidatesOf_131 (lv_at hl 0 rfl) ?_
                    refine va_iast (D := D) (i := y11) (x := y10) hx hb hK hP hD hS 57 56 rfl rfl (i_in (a := y11.toInt) rfl (by (first | exact om_97cd09ff96d9 r2.2 q19 klp13_1.1 xlp13_2 f16 | omega))) dX12_candidatesOf_133 (fun H locs hP hD hS => ?_)
                    obtain ⟨V45, hV45⟩ : ∃ z, z = up2 V12 80 (Int32.toNatClampNeg y11) y10 := ⟨_, rfl⟩
                    have hP : va_P D vwCl (mw ad kk ks.1 V45 L) H := by rw [hV45]; exact hP
                    have hD : va_D A (mw ad kk ks.1 V45 L) := by rw [hV45]; exact hD
                    have hMV45 : rgd bM V45 := hMV12.put hV45 (show 0 ≤ y10.toInt ∧ y10.toInt ≤ 23 from by (first | exact om_b82ab6f2f50e r2.2 q19 klp13_0.1 f16 | omega))
                    have agV45 : agr [] [80] V V45 := agV12.up hV45 rfl
                    obtain ⟨z46, ez46⟩ : ∃ y : Int32, y = y11 + 1 := ⟨_, rfl⟩
                    have hz46 : z46.toInt = y11.toInt + 1 := i_add ez46 rfl (by decide) (by (first | exact om_42a03d5ac0bb r2.2 q19 klp13_1.1 xlp13_2 f16 | omega))
                    refine lv_iinc (v := z46) (lv' := [(3, .int z46), (4, .int y10), (2, .int y4), (0, .ref (ad 0)), (1, .int p0)]) hx hb dX12_candidatesOf_134 hl (k := 1) rfl (by rw [ez46]; rfl) (by decide) rfl (fun ls hl => ?_)
                    obtain ⟨z47, ez47⟩ : ∃ y : Int32, y = y10 + 1 := ⟨_, rfl⟩
                    have hz47 : z47.toInt = y10.toInt + 1 := i_add ez47 rfl (by decide) (by (first | exact om_cba3b1702db7 r2.2 q19 klp13_0.1 f16 | omega))
                    refine lv_iinc (v := z47) (lv' := [(4, .int z47), (3, .int z46), (2, .int y4), (0, .ref (ad 0)), (1, .int p0)]) hx hb dX12_candidatesOf_137 hl (k := 1) rfl (by rw [ez47]; rfl) (by decide) rfl (fun ls hl => ?_)
                    refine lv_goto (tgt := 74) hx hb dX12_candidatesOf_140 (by decide) ?_
                    have su48 : suP gs.1 (svm V bq (gs.2.1 1).length) (gs.1 (300 + 32 * gc + 4 * gj)) (gs.1 (302 + 32 * gc + 4 * gj)) (Int32.toNatClampNeg y10) = true := (by have h9 := (t23.resolve_right (fun h9 => by have h8 := h9.1; omega)).2; rw [sv6] at h9; exact h9)
                    have em9 : z47.toInt.toNat = (Int32.toNatClampNeg y10) + 1 := by (first | exact om_e74b57b43c73 klp13_0.1 kk17 hz47 | omega)
                    have l9 := xlp13_0
                    rw [show y10.toInt.toNat = (Int32.toNatClampNeg y10) from rfl] at l9
                    have b9 : y4.toInt = ((bsP gs.1 (svm V bq (gs.2.1 1).length) (gs.1 (300 + 32 * gc + 4 * gj)) (gs.1 (302 + 32 * gc + 4 * gj)) (gs.2.1 2).length : Nat) : Int) := bb9
                    exact ihlp13 z47 z46 V45 H locs ls (by (first | exact om_03bbbfa61cad r2.2 q19 klp13_0.1 f16 hz47 | omega)) (by (first | exact om_fd7621cf2ee5 r2.2 q19 klp13_1.1 xlp13_2 f16 hz46 | omega)) (by rw [em9, CLP_y (cdP_y su48 (Or.inr (by omega)))]; exact CLV.add l9 hV45 (by have h9 := i_clamp (x := y11) rfl (by (first | exact om_eafa9039069c klp13_1.1 | omega)); omega) (by omega) (by omega)) (show z47.toInt ≤ (((gs.2.1 2).length : Nat) : Int) from by (first | exact om_139e70ed6b2e ln q19 f16 hz47 | omega)) (show z46.toInt ≤ z47.toInt from by (first | exact om_953ed16b636a xlp13_2 hz46 hz47 | omega)) (fun h9 => by exfalso; omega) (by (first | exact om_9592d9319ffa hn hz47 | omega)) (agr.up (agr.tr agr.rf ajV12 (by decide) (by decide)) hV45 rfl) hMV45 hP hD hS (lv_sub hl [0, 1, 2, 3, 4] rfl)
        have r49 : Int32.toInt 0 = 0 := by decide
        exact lp13 ((24 - (Int32.toInt 0) + 1 : Int).toNat) 0 0 V H locs ls (by decide) (by decide) (by rw [show (Int32.toInt 0).toNat = 0 from by decide]; exact CLV.z rfl) (show (Int32.toInt 0) ≤ (((gs.2.1 2).length : Nat) : Int) from by (first | exact om_3f7d4d3a7b74 gcl r49 | omega)) (show (Int32.toInt 0) ≤ (Int32.toInt 0) from by (first | exact om_5977f3d8a10f | omega)) (fun _ => rfl) (by (first | exact om_817980d3aa47 | omega)) agr.rf hMV hP hD hS (lv_sub hl [0, 1, 2, 3, 4] rfl)
      · skip
        have f50 : y3.toInt < ((V 19 (Int32.toNatClampNeg (V 0 11)))).toInt := b_nle rfl rfl c7
        have kk51 := i_clamp (x := y3) rfl (by (first | exact om_eafa9039069c klp5_0.1 | omega))
        refine lv_aload_n hx hb dX12_candidatesOf_17 rfl (lv_at hl 2 rfl) ?_
        refine lv_iload_n hx hb dX12_candidatesOf_18 rfl (lv_at hl 3 rfl) ?_
        refine lv_iload_n hx hb dX12_candidatesOf_19 rfl (lv_at hl 0 rfl) ?_
        refine gA_int (gA_runV (As := [.int p0, .int y3]) (rest := []) (ci := 12) (q0 := 0) hx hb hml hown hg hP hD hK hS hA hnw hgk (s_suits6 l D ks H.size ad kk V L p0 y3 (bq) (gs) (gc) (gj) ((Int32.toNatClampNeg y3)) hMV (by (first | exact om_ee2ada808de7 rg_p0.2 zq1 pn r1.1 | omega)) (by (first | exact om_ac7b8d4d9f10 klp5_0.1 r6.2 f50 | omega)) (show ((bq) : Int) = (V 0 11).toInt from by (first | exact om_639da7453e33 zq1 | omega)) (show p0.toInt = ((8 * (24 * (bq) + (gc)) + (gj) : Nat) : Int) from by (first | exact om_5c6f91e56a35 pn | omega)) gcl gjl t24 (show y3.toInt = (((Int32.toNatClampNeg y3)) : Int) from by (first | exact om_dadc9969542e kk51 | omega)) (show (Int32.toNatClampNeg y3) < (gs.2.1 2).length from by (first | exact om_2278541b5b9f ln q19 f50 kk51 | omega)) com (show (V 19 (bq)).toInt = ((((gs).2.1 2).length : Nat) : Int) from by (first | exact om_08e0c9701055 ln | omega)) wh) w2176 w2178 w120 w172 w2179 rfl rfl hdV_yX12_suits ⟨Nat.le_of_ble_eq_true rfl, Nat.le_of_ble_eq_true rfl⟩ rfl hl.1 rfl (Nat.le_of_ble_eq_true rfl) dX12_candidatesOf_20 ⟨Nat.le_of_ble_eq_true rfl, Nat.le_of_ble_eq_true rfl⟩) hP hD hK hS hA (fun z52 u53 H locs w54 hP hD hK hS => ?_)
        obtain ⟨rgz52, t55⟩ := w54
        have rgz52 : 0 ≤ z52.toInt ∧ z52.toInt ≤ 1 := rgz52
        have t55 : (z52.toInt = 1 ∧ suP (gs).1 (svm V (bq) ((gs).2.1 1).length) ((gs).1 (300 + 32 * (gc) + 4 * (gj))) ((gs).1 (302 + 32 * (gc) + 4 * (gj))) ((Int32.toNatClampNeg y3)) = true) ∨ (z52.toInt = 0 ∧ suP (gs).1 (svm V (bq) ((gs).2.1 1).length) ((gs).1 (300 + 32 * (gc) + 4 * (gj))) ((gs).1 (302 + 32 * (gc) + 4 * (gj))) ((Int32.toNatClampNeg y3)) = false) := t55
        refine lv_if_eq (tgt := 61) hx hb dX12_candidatesOf_23 (by decide) (fun c56 => ?_) (fun c56 => ?_)
        · skip
          have f57 : z52.toInt = 0 := b_eq rfl (by decide) c56
          refine lv_iload_n hx hb dX12_candidatesOf_61 rfl (lv_at hl 1 rfl) ?_
          refine lv_istore_n (lv' := [(2, .int y4), (3, .int y3), (0, .ref (ad 0)), (1, .int p0)]) hx hb dX12_candidatesOf_62 rfl hl (by decide) rfl (fun ls hl => ?_)
          obtain ⟨z58, ez58⟩ : ∃ y : Int32, y = y3 + 1 := ⟨_, rfl⟩
          have hz58 : z58.toInt = y3.toInt + 1 := i_add ez58 rfl (by decide) (by (first | exact om_d1b22b2ae31e klp5_0.1 r6.2 f50 | omega))
          refine lv_iinc (v := z58) (lv' := [(3, .int z58), (2, .int y4), (0, .ref (ad 0)), (1, .int p0)]) hx hb dX12_candidatesOf_63 hl (k := 1) rfl (by rw [ez58]; rfl) (by decide) rfl (fun ls hl => ?_)
          refine lv_goto (tgt := 4) hx hb dX12_candidatesOf_66 (by decide) ?_
          have su59 : suP gs.1 (svm V bq (gs.2.1 1).length) (gs.1 (300 + 32 * gc + 4 * gj)) (gs.1 (302 + 32 * gc + 4 * gj)) (Int32.toNatClampNeg y3) = false := (t55.resolve_left (fun h9 => by have h8 := h9.1; omega)).2
          have em9 : z58.toInt.toNat = (Int32.toNatClampNeg y3) + 1 := by (first | exact om_e74b57b43c73 klp5_0.1 kk51 hz58 | omega)
          have b9 := xlp5_0
          rw [show y3.toInt.toNat = (Int32.toNatClampNeg y3) from rfl] at b9
          exact ihlp5 z58 y4 H locs ls (by (first | exact om_5c2541dbcd85 klp5_0.1 r6.2 f50 hz58 | omega)) (by (first | exact om_7b57350f0a3a klp5_1.1 klp5_1.2 | omega)) (by rw [em9, bsP_n su59]; omega) (show z58.toInt ≤ (((gs.2.1 2).length : Nat) : Int) from by (first | exact om_139e70ed6b2e ln q19 f50 hz58 | omega)) (by (first | exact om_9592d9319ffa hn hz58 | omega)) hP hD hS (lv_sub hl [0, 1, 2, 3] rfl)
        · skip
          have f60 : z52.toInt ≠ 0 := b_neq rfl (by decide) c56
          refine lv_aload_n hx hb dX12_candidatesOf_26 rfl (lv_at hl 2 rfl) ?_
          refine va_get (D := D) (ci := 12) (v := .ref (ad 24)) (C := RX12) (T := TX12) (N := 100) hx hb hg inX12 hown hK hP 0 rfl rfl 24 (by decide) (hg _ w1730) (fun _ h9 => h9) rfl dX12_candidatesOf_27 ?_
          refine lv_bipush (v := 24) hx hb dX12_candidatesOf_30 (by decide) ?_
          refine lv_aload_n hx hb dX12_candidatesOf_32 rfl (lv_at hl 2 rfl) ?_
          refine va_get (D := D) (ci := 12) (v := .int (V 0 11)) (C := RX12) (T := TX12) (N := 100) hx hb hg inX12 hown hK hP 0 rfl rfl 11 (by decide) (hg _ w1717) (fun _ h9 => h9) rfl dX12_candidatesOf_33 ?_
          refine lv_imul hx hb dX12_candidatesOf_36 ?_
          refine lv_topi (fun z61 ez61 => ?_)
          have hz61 : z61.toInt = 24 * ((V 0 11)).toInt := i_mul ez61 (by decide) rfl (by (first | exact om_3f8aba7b6ce1 r1.1 r1.2 | omega))
          refine lv_iload_n hx hb dX12_candidatesOf_37 rfl (lv_at hl 0 rfl) ?_
          refine lv_iadd hx hb dX12_candidatesOf_38 ?_
          refine lv_topi (fun z62 ez62 => ?_)
          have hz62 : z62.toInt = z61.toInt + y3.toInt := i_add ez62 rfl rfl (by (first | exact om_9c4efbfbadc9 r1.1 r1.2 klp5_0.1 r6.2 f50 hz61 | omega))
          have kr6 : Int32.toNatClampNeg z62 = 24 * bq + (Int32.toNatClampNeg y3) := by have h9 := i_clamp (x := z62) rfl (by (first | exact om_19aed6992cbe r1.1 klp5_0.1 hz61 hz62 | omega)); (first | exact om_4c29053cab98 zq1 kk51 hz61 hz62 h9 | omega)
          have r24 : (V 24 (Int32.toNatClampNeg z62)).toInt = ((gs.1 (63 + 8 * (Int32.toNatClampNeg y3)) : Nat) : Int) := by rw [kr6]; exact (com (Int32.toNatClampNeg y3) (by omega)).1.2.2.2.1
          refine va_iald (D := D) (i := z62) hx hb hK hP 17 16 rfl rfl (i_in (a := z62.toInt) rfl (by (first | exact om_6ae5e7bc2a17 r1.1 r1.2 klp5_0.1 r6.2 f50 hz61 hz62 | omega))) dX12_candidatesOf_39 ?_
          have r63 : 0 ≤ ((V 24 (Int32.toNatClampNeg z62))).toInt ∧ ((V 24 (Int32.toNatClampNeg z62))).toInt ≤ 9 := hMV 24 (Int32.toNatClampNeg z62)
          refine lv_iload_n hx hb dX12_candidatesOf_40 rfl (lv_at hl 1 rfl) ?_
          refine lv_icmp_le (tgt := 61) hx hb dX12_candidatesOf_41 (by decide) (fun c64 => ?_) (fun c64 => ?_)
          · skip
            have f65 : ((V 24 (Int32.toNatClampNeg z62))).toInt ≤ y4.toInt := b_le rfl rfl c64
            refine lv_iload_n hx hb dX12_candidatesOf_61 rfl (lv_at hl 1 rfl) ?_
            refine lv_istore_n (lv' := [(2, .int y4), (3, .int y3), (0, .ref (ad 0)), (1, .int p0)]) hx hb dX12_candidatesOf_62 rfl hl (by decide) rfl (fun ls hl => ?_)
            obtain ⟨z66, ez66⟩ : ∃ y : Int32, y = y3 + 1 := ⟨_, rfl⟩
            have hz66 : z66.toInt = y3.toInt + 1 := i_add ez66 rfl (by decide) (by (first | exact om_d1b22b2ae31e klp5_0.1 r6.2 f50 | omega))
            refine lv_iinc (v := z66) (lv' := [(3, .int z66), (2, .int y4), (0, .ref (ad 0)), (1, .int p0)]) hx hb dX12_candidatesOf_63 hl (k := 1) rfl (by rw [ez66]; rfl) (by decide) rfl (fun ls hl => ?_)
            refine lv_goto (tgt := 4) hx hb dX12_candidatesOf_66 (by decide) ?_
            have su67 : suP gs.1 (svm V bq (gs.2.1 1).length) (gs.1 (300 + 32 * gc + 4 * gj)) (gs.1 (302 + 32 * gc + 4 * gj)) (Int32.toNatClampNeg y3) = true := (t55.resolve_right (fun h9 => by have h8 := h9.1; omega)).2
            have em9 : z66.toInt.toNat = (Int32.toNatClampNeg y3) + 1 := by (first | exact om_e74b57b43c73 klp5_0.1 kk51 hz66 | omega)
            have b9 := xlp5_0
            rw [show y3.toInt.toNat = (Int32.toNatClampNeg y3) from rfl] at b9
            exact ihlp5 z66 y4 H locs ls (by (first | exact om_5c2541dbcd85 klp5_0.1 r6.2 f50 hz66 | omega)) (by (first | exact om_7b57350f0a3a klp5_1.1 klp5_1.2 | omega)) (by rw [em9, bsP_l (by omega)]; omega) (show z66.toInt ≤ (((gs.2.1 2).length : Nat) : Int) from by (first | exact om_139e70ed6b2e ln q19 f50 hz66 | omega)) (by (first | exact om_9592d9319ffa hn hz66 | omega)) hP hD hS (lv_sub hl [0, 1, 2, 3] rfl)
          · skip
            have f68 : y4.toInt < ((V 24 (Int32.toNatClampNeg z62))).toInt := b_nle rfl rfl c64
            refine lv_aload_n hx hb dX12_candidatesOf_44 rfl (lv_at hl 2 rfl) ?_
            refine va_get (D := D) (ci := 12) (v := .ref (ad 24)) (C := RX12) (T := TX12) (N := 100) hx hb hg inX12 hown hK hP 0 rfl rfl 24 (by decide) (hg _ w1730) (fun _ h9 => h9) rfl dX12_candidatesOf_45 ?_
            refine lv_bipush (v := 24) hx hb dX12_candidatesOf_48 (by decide) ?_
            refine lv_aload_n hx hb dX12_candidatesOf_50 rfl (lv_at hl 2 rfl) ?_
            refine va_get (D := D) (ci := 12) (v := .int (V 0 11)) (C := RX12) (T := TX12) (N := 100) hx hb hg inX12 hown hK hP 0 rfl rfl 11 (by decide) (hg _ w1717) (fun _ h9 => h9) rfl dX12_candidatesOf_51 ?_
            refine lv_imul hx hb dX12_candidatesOf_54 ?_
            refine lv_topi (fun z69 ez69 => ?_)
            have hz69 : z69.toInt = 24 * ((V 0 11)).toInt := i_mul ez69 (by decide) rfl (by (first | exact om_3f8aba7b6ce1 r1.1 r1.2 | omega))
            refine lv_iload_n hx hb dX12_candidatesOf_55 rfl (lv_at hl 0 rfl) ?_
            refine lv_iadd hx hb dX12_candidatesOf_56 ?_
            refine lv_topi (fun z70 ez70 => ?_)
            have hz70 : z70.toInt = z69.toInt + y3.toInt := i_add ez70 rfl rfl (by (first | exact om_9c4efbfbadc9 r1.1 r1.2 klp5_0.1 r6.2 f50 hz69 | omega))
            have kr6 : Int32.toNatClampNeg z70 = 24 * bq + (Int32.toNatClampNeg y3) := by have h9 := i_clamp (x := z70) rfl (by (first | exact om_19aed6992cbe r1.1 klp5_0.1 hz69 hz70 | omega)); (first | exact om_4c29053cab98 zq1 kk51 hz69 hz70 h9 | omega)
            have r24 : (V 24 (Int32.toNatClampNeg z70)).toInt = ((gs.1 (63 + 8 * (Int32.toNatClampNeg y3)) : Nat) : Int) := by rw [kr6]; exact (com (Int32.toNatClampNeg y3) (by omega)).1.2.2.2.1
            refine va_iald (D := D) (i := z70) hx hb hK hP 17 16 rfl rfl (i_in (a := z70.toInt) rfl (by (first | exact om_6ae5e7bc2a17 r1.1 r1.2 klp5_0.1 r6.2 f50 hz69 hz70 | omega))) dX12_candidatesOf_57 ?_
            have r71 : 0 ≤ ((V 24 (Int32.toNatClampNeg z70))).toInt ∧ ((V 24 (Int32.toNatClampNeg z70))).toInt ≤ 9 := hMV 24 (Int32.toNatClampNeg z70)
            refine lv_goto (tgt := 62) hx hb dX12_candidatesOf_58 (by decide) ?_
            refine lv_istore_n (lv' := [(2, .int (V 24 (Int32.toNatClampNeg z70))), (3, .int y3), (0, .ref (ad 0)), (1, .int p0)]) hx hb dX12_candidatesOf_62 rfl hl (by decide) rfl (fun ls hl => ?_)
            obtain ⟨z72, ez72⟩ : ∃ y : Int32, y = y3 + 1 := ⟨_, rfl⟩
            have hz72 : z72.toInt = y3.toInt + 1 := i_add ez72 rfl (by decide) (by (first | exact om_d1b22b2ae31e klp5_0.1 r6.2 f50 | omega))
            refine lv_iinc (v := z72) (lv' := [(3, .int z72), (2, .int (V 24 (Int32.toNatClampNeg z70))), (0, .ref (ad 0)), (1, .int p0)]) hx hb dX12_candidatesOf_63 hl (k := 1) rfl (by rw [ez72]; rfl) (by decide) rfl (fun ls hl => ?_)
            refine lv_goto (tgt := 4) hx hb dX12_candidatesOf_66 (by decide) ?_
            have su73 : suP gs.1 (svm V bq (gs.2.1 1).length) (gs.1 (300 + 32 * gc + 4 * gj)) (gs.1 (302 + 32 * gc + 4 * gj)) (Int32.toNatClampNeg y3) = true := (t55.resolve_right (fun h9 => by have h8 := h9.1; omega)).2
            have em9 : z72.toInt.toNat = (Int32.toNatClampNeg y3) + 1 := by (first | exact om_e74b57b43c73 klp5_0.1 kk51 hz72 | omega)
            have b9 := xlp5_0
            rw [show y3.toInt.toNat = (Int32.toNatClampNeg y3) from rfl] at b9
            exact ihlp5 z72 (V 24 (Int32.toNatClampNeg z70)) H locs ls (by (first | exact om_5c2541dbcd85 klp5_0.1 r6.2 f50 hz72 | omega)) (by (first | exact om_7b57350f0a3a r71.1 r71.2 | omega)) (by rw [em9, bsP_h su73 (by omega)]; omega) (show z72.toInt ≤ (((gs.2.1 2).length : Nat) : Int) from by (first | exact om_139e70ed6b2e ln q19 f50 hz72 | omega)) (by (first | exact om_9592d9319ffa hn hz72 | omega)) hP hD hS (lv_sub hl [0, 1, 2, 3] rfl)
  have r74 : Int32.toInt 0 = 0 := by decide
  exact lp5 ((24 - (Int32.toInt 0) + 1 : Int).toNat) 0 0 H locs ls (by decide) (by decide) (by rw [show (Int32.toInt 0).toNat = 0 from by decide]; rfl) (show (Int32.toInt 0) ≤ (((gs.2.1 2).length : Nat) : Int) from by (first | exact om_3f7d4d3a7b74 gcl r74 | omega)) (by (first | exact om_817980d3aa47 | omega)) hP hD hS (lv_sub hl [0, 1, 2, 3] rfl)
abbrev r_s_isCandidate9 : Room := { frames := 3, cells := 0, slots := 0, locals := 69 }
abbrev q_s_isCandidate9 (D : va_G) (ks : KS) (ad : Nat → Nat) (kk : Nat → ClassId) (V : Vf) (L : Lf) (p0 : Int32) (p1 : Int32) (bq : Nat) (gs : St) (gc : Nat) (gj : Nat) (gv : Nat → Int) (gk : Nat) (A : Nat → Prop) : Array Value → State → Outcome → State → Prop := va_Qi (fun (r : Int32) (u : Vf × Lf) => rgd bM u.1 ∧ agr [] [80] V u.1 ∧ u.2 = L ∧ (0 ≤ r.toInt ∧ r.toInt ≤ 1) ∧ ((r.toInt = 1 ∧ cdP gs.1 gv (gs.1 (301 + 32 * gc + 4 * gj)) (gs.1 (300 + 32 * gc + 4 * gj)) (gs.1 (302 + 32 * gc + 4 * gj)) (gs.2.1 2).length gk = true) ∨ (r.toInt = 0 ∧ cdP gs.1 gv (gs.1 (301 + 32 * gc + 4 * gj)) (gs.1 (300 + 32 * gc + 4 * gj)) (gs.1 (302 + 32 * gc + 4 * gj)) (gs.2.1 2).length gk = false)) ∧ (u.1 80 0 = V 80 0 ∨ ∃ d9 : Nat, (u.1 80 0).toInt = (d9 : Int) ∧ d9 ∈ clF gs.1 gv (gs.2.1 2).length gc gj)) (fun u t => gq D A (mw ad kk ks.1 u.1 u.2) (mty kk) t) A
set_option maxHeartbeats 4000000 in
set_option maxRecDepth 100000 in
theorem s_isCandidate9 (l : Launch) (D : va_G) (ks : KS) (sz : Nat) (ad : Nat → Nat) (kk : Nat → ClassId) (V : Vf) (L : Lf) (p0 : Int32) (p1 : Int32) (bq : Nat) (gs : St) (gc : Nat) (gj : Nat) (gv : Nat → Int) (gk : Nat) (hMV : rgd bM V) (rg_p0 : 0 ≤ p0.toInt ∧ p0.toInt ≤ 383) (rg_p1 : 0 ≤ p1.toInt ∧ p1.toInt ≤ 23) (zq1 : (bq : Int) = (V 0 11).toInt) (pn : p0.toInt = ((8 * (24 * bq + gc) + gj : Nat) : Int)) (gcl : gc < (gs.2.1 2).length) (gjl : gj < gs.1 (66 + 8 * gc)) (t4 : T24 gs) (pk : p1.toInt = ((gk : Nat) : Int)) (gkl : gk < (gs.2.1 2).length) (com : COM V bq gs) (wh : WHs gs) (ln : (V 19 bq).toInt = (((gs.2.1 2).length : Nat) : Int)) (hsv : svm V bq (gs.2.1 1).length = gv)  : Met l yX12_isCandidate (Cond.code yX12_isCandidate cX12_isCandidate 6 (some .boolean) :: GW) r_s_isCandidate9 (va_Pc [.ref (ad 0), .int p0, .int p1] (gp D ks (mw ad kk ks.1 V L) (mty kk) sz)) (q_s_isCandidate9 D ks ad kk V L p0 p1 bq gs gc gj gv gk (va_A (mw ad kk ks.1 V L) sz)) 0 0 (va_A (mw ad kk ks.1 V L) sz) := by
  refine g_met (q_s_isCandidate9 D ks ad kk V L p0 p1 bq gs gc gj gv gk) (by decide) (Nat.le_of_ble_eq_true rfl) ?_
  intro p e s m below meth c A ls H locs hx hb hr hml hown hg hlocks hin hnw hgk hP hK hD hS hA hl
  have hown : s.vm.findClass RX12 = some m.cls := hown
  have hl : lv_has ls 6 [(0, .ref (ad 0)), (1, .int p0), (2, .int p1)] := hl
  have hP : va_P D vwCl (mw ad kk ks.1 V L) H := hP
  have hD : va_D A (mw ad kk ks.1 V L) := hD
  have hK : va_K D vwCl (mty kk) s := hK
  have agV : agr [] [80] V V := agr.rf
  have r1 : 0 ≤ ((V 0 11)).toInt ∧ ((V 0 11)).toInt ≤ 1 := hMV 0 11
  have r2 : 0 ≤ ((V 19 bq)).toInt ∧ ((V 19 bq)).toInt ≤ 24 := hMV 19 bq
  have kb9 : Int32.toNatClampNeg (V 0 11) = bq := by have h9 := i_clamp (x := V 0 11) rfl (by (first | exact om_eafa9039069c r1.1 | omega)); (first | exact om_7d9cc8d6a75e zq1 h9 | omega)
  have q19 : (V 19 (Int32.toNatClampNeg (V 0 11))).toInt = (V 19 bq).toInt := by rw [kb9]
  have t24 := (t4 gc gcl).2.2 gj gjl
  refine lv_aload_n hx hb dX12_isCandidate_0 rfl (lv_at hl 0 rfl) ?_
  refine lv_iload_n hx hb dX12_isCandidate_1 rfl (lv_at hl 1 rfl) ?_
  refine gA_int (gA_runV (As := [.int p0]) (rest := []) (ci := 12) (q0 := 0) hx hb hml hown hg hP hD hK hS hA hnw hgk (s_candidatesOf9 l D ks H.size ad kk V L p0 (bq) (gs) (gc) (gj) hMV (by (first | exact om_ee2ada808de7 rg_p0.2 zq1 pn r1.1 | omega)) (show ((bq) : Int) = (V 0 11).toInt from by (first | exact om_639da7453e33 zq1 | omega)) (show p0.toInt = ((8 * (24 * (bq) + (gc)) + (gj) : Nat) : Int) from by (first | exact om_5c6f91e56a35 pn | omega)) gcl gjl t24 com (show (V 19 (bq)).toInt = ((((gs).2.1 2).length : Nat) : Int) from by (first | exact om_08e0c9701055 ln | omega)) wh) w2172 w2174 w119 w172 w2175 rfl rfl hdV_yX12_candidatesOf ⟨Nat.le_of_ble_eq_true rfl, Nat.le_of_ble_eq_true rfl⟩ rfl hl.1 rfl (Nat.le_of_ble_eq_true rfl) dX12_isCandidate_2 ⟨Nat.le_of_ble_eq_true rfl, Nat.le_of_ble_eq_true rfl⟩) hP hD hK hS hA (fun z3 u4 H locs w5 hP hD hK hS => ?_)
  obtain ⟨V8, L9⟩ := u4
  obtain ⟨hMV8, ajV8, axL9, rgz3, t6, t7⟩ := w5
  have axL9 : L = L9 := Eq.symm axL9
  subst axL9
  have hP : va_P D vwCl (mw ad kk ks.1 V8 L) H := hP
  have hD : va_D A (mw ad kk ks.1 V8 L) := hD
  have hMV8 : rgd bM V8 := hMV8
  have ajV8 : agr [] [80] V V8 := ajV8
  have agV8 : agr [] [80] V V8 := agV.tr ajV8 (by decide) (by decide)
  have rgz3 : 0 ≤ z3.toInt ∧ z3.toInt ≤ 24 := rgz3
  have t6 : CLV V8 80 (CLP (gs).1 (svm V (bq) ((gs).2.1 1).length) ((gs).1 (301 + 32 * (gc) + 4 * (gj))) ((gs).1 (300 + 32 * (gc) + 4 * (gj))) ((gs).1 (302 + 32 * (gc) + 4 * (gj))) ((gs).2.1 2).length ((gs).2.1 2).length) z3.toInt := t6
  have t7 : z3.toInt = 0 → V8 80 0 = V 80 0 := t7
  refine lv_istore_n (lv' := [(3, .int z3), (0, .ref (ad 0)), (1, .int p0), (2, .int p1)]) hx hb dX12_isCandidate_5 rfl hl (by decide) rfl (fun ls hl => ?_)
  have cv10 : CLV V8 80 (clF gs.1 gv (gs.2.1 2).length gc gj) z3.toInt := by have h9 := t6; rw [hsv] at h9; exact h9
  have ll9 := cv10.1
  have c09 := CLV.c0 (V := V) cv10 t7
  refine lv_iconst (v := 0) hx hb dX12_isCandidate_6 (by decide) ?_
  refine lv_istore (lv' := [(4, .int 0), (3, .int z3), (0, .ref (ad 0)), (1, .int p0), (2, .int p1)]) hx hb dX12_isCandidate_7 hl (by decide) rfl (fun ls hl => ?_)
  refine lv_iconst (v := 0) hx hb dX12_isCandidate_9 (by decide) ?_
  refine lv_istore (lv' := [(5, .int 0), (4, .int 0), (3, .int z3), (0, .ref (ad 0)), (1, .int p0), (2, .int p1)]) hx hb dX12_isCandidate_10 hl (by decide) rfl (fun ls hl => ?_)
  have lp13 : ∀ (fulp13 : Nat) (y11 : Int32) (y12 : Int32) (H : Heap) (locs : List Loc) (ls : Array Slot), 0 ≤ y11.toInt ∧ y11.toInt ≤ 24 → 0 ≤ y12.toInt ∧ y12.toInt ≤ 1 → y11.toInt ≤ z3.toInt → ((y12.toInt = 1 ∧ gk ∈ (clF gs.1 gv (gs.2.1 2).length gc gj)) ∨ (y12.toInt = 0 ∧ ∀ i (h : i < (clF gs.1 gv (gs.2.1 2).length gc gj).length), i < y11.toInt.toNat → (clF gs.1 gv (gs.2.1 2).length gc gj)[i] ≠ gk)) → z3.toInt - y11.toInt < (fulp13 : Int) → va_P D vwCl (mw ad kk ks.1 V8 L) H → va_D A (mw ad kk ks.1 V8 L) → va_S A s.heap H locs → lv_has ls 6 [(5, .int y11), (4, .int y12), (3, .int z3), (0, .ref (ad 0)), (1, .int p0), (2, .int p1)] → W p l e r_s_isCandidate9 s m ([.ref (ad 0), .int p0, .int p1] : List Value).toArray below meth c H locs 0 0 (MQ below (q_s_isCandidate9 D ks ad kk V L p0 p1 bq gs gc gj gv gk A) ([.ref (ad 0), .int p0, .int p1] : List Value).toArray s 0 0 A) (F0 m 12 ls []) := by
    intro fulp13
    induction fulp13 with
    | zero =>
      intro y11 y12 H locs ls klp13_0 klp13_1 xlp13_0 xlp13_1 hn  hP hD hS hl
      exfalso; (first | exact om_4634b1278845 xlp13_0 hn | omega)
    | succ fulp13 ihlp13 =>
      intro y11 y12 H locs ls klp13_0 klp13_1 xlp13_0 xlp13_1 hn  hP hD hS hl
      refine lv_iload hx hb dX12_isCandidate_12 (lv_at hl 0 rfl) ?_
      refine lv_iload_n hx hb dX12_isCandidate_14 rfl (lv_at hl 2 rfl) ?_
      refine lv_icmp_ge (tgt := 47) hx hb dX12_isCandidate_15 (by decide) (fun c14 => ?_) (fun c14 => ?_)
      · skip
        have f15 : z3.toInt ≤ y11.toInt := b_le rfl rfl c14
        refine lv_iload hx hb dX12_isCandidate_47 (lv_at hl 1 rfl) ?_
        exact W.zret (v := y12) hx hb hr (nb_ok (by omega)) (fun t ht hW => ⟨⟨y12, (V8, L), rfl, ⟨hMV8, agV8, rfl, (show 0 ≤ y12.toInt ∧ y12.toInt ≤ 1 from by (first | exact om_eb7af9d60398 klp13_1.1 klp13_1.2 | omega)), (by rcases xlp13_1 with h9 | h9; exact Or.inl ⟨h9.1, (CLP_mem gkl).mp h9.2⟩; exact Or.inr ⟨h9.1, by cases e9 : cdP gs.1 gv (gs.1 (301 + 32 * gc + 4 * gj)) (gs.1 (300 + 32 * gc + 4 * gj)) (gs.1 (302 + 32 * gc + 4 * gj)) (gs.2.1 2).length gk; rfl; exact absurd (show gk ∈ (clF gs.1 gv (gs.2.1 2).length gc gj) from (CLP_mem gkl).mpr e9) (mem_at (fun i hi => h9.2 i hi (by omega)))⟩), c09⟩, by rw [ht]; exact hP, va_K.moved hW.alike hK, hD⟩, hS.F ht⟩) hS.2.2 dX12_isCandidate_49
      · skip
        have f16 : y11.toInt < z3.toInt := b_nle rfl rfl c14
        have ky9 := i_clamp (x := y11) rfl (by (first | exact om_eafa9039069c klp13_0.1 | omega))
        have hK9 : (Int32.toNatClampNeg y11) < (clF gs.1 gv (gs.2.1 2).length gc gj).length := by omega
        have cv9 : (V8 80 (Int32.toNatClampNeg y11)).toInt = (((clF gs.1 gv (gs.2.1 2).length gc gj)[(Int32.toNatClampNeg y11)] : Nat) : Int) := cv10.2 (Int32.toNatClampNeg y11) hK9
        have gl9 : (clF gs.1 gv (gs.2.1 2).length gc gj)[(Int32.toNatClampNeg y11)] < (gs.2.1 2).length := clF_lt (List.getElem_mem hK9)
        refine lv_iload hx hb dX12_isCandidate_18 (lv_at hl 1 rfl) ?_
        refine lv_if_ne (tgt := 34) hx hb dX12_isCandidate_20 (by decide) (fun c17 => ?_) (fun c17 => ?_)
        · skip
          have f18 : y12.toInt ≠ 0 := b_neq rfl (by decide) c17
          refine lv_iconst (v := 1) hx hb dX12_isCandidate_34 (by decide) ?_
          refine lv_goto (tgt := 39) hx hb dX12_isCandidate_35 (by decide) ?_
          refine lv_istore (lv' := [(4, .int 1), (5, .int y11), (3, .int z3), (0, .ref (ad 0)), (1, .int p0), (2, .int p1)]) hx hb dX12_isCandidate_39 hl (by decide) rfl (fun ls hl => ?_)
          obtain ⟨z19, ez19⟩ : ∃ y : Int32, y = y11 + 1 := ⟨_, rfl⟩
          have hz19 : z19.toInt = y11.toInt + 1 := i_add ez19 rfl (by decide) (by (first | exact om_ef5c713ba60b rgz3.2 klp13_0.1 f16 | omega))
          refine lv_iinc (v := z19) (lv' := [(5, .int z19), (4, .int 1), (3, .int z3), (0, .ref (ad 0)), (1, .int p0), (2, .int p1)]) hx hb dX12_isCandidate_41 hl (k := 1) rfl (by rw [ez19]; rfl) (by decide) rfl (fun ls hl => ?_)
          refine lv_goto (tgt := 12) hx hb dX12_isCandidate_44 (by decide) ?_
          have r20 : Int32.toInt 1 = 1 := by decide
          exact ihlp13 z19 1 H locs ls (by (first | exact om_66f93e1729e3 rgz3.2 klp13_0.1 f16 hz19 | omega)) (by decide) (show z19.toInt ≤ z3.toInt from by (first | exact om_7fe9249fc074 f16 hz19 | omega)) (Or.inl ⟨rfl, (xlp13_1.resolve_right (fun h7 => by have h6 := h7.1; omega)).2⟩) (by (first | exact om_9e7d2b874257 hn hz19 | omega)) hP hD hS (lv_sub hl [0, 1, 2, 3, 4, 5] rfl)
        · skip
          have f21 : y12.toInt = 0 := b_eq rfl (by decide) c17
          refine lv_aload_n hx hb dX12_isCandidate_23 rfl (lv_at hl 3 rfl) ?_
          refine va_get (D := D) (ci := 12) (v := .ref (ad 80)) (C := RX12) (T := TX12) (N := 100) hx hb hg inX12 hown hK hP 0 rfl rfl 80 (by decide) (hg _ w1786) (fun _ h9 => h9) rfl dX12_isCandidate_24 ?_
          refine lv_iload hx hb dX12_isCandidate_27 (lv_at hl 0 rfl) ?_
          refine va_iald (D := D) (i := y11) hx hb hK hP 57 56 rfl rfl (i_in (a := y11.toInt) rfl (by (first | exact om_b50422aacf88 rgz3.2 klp13_0.1 f16 | omega))) dX12_isCandidate_29 ?_
          have r22 : 0 ≤ ((V8 80 (Int32.toNatClampNeg y11))).toInt ∧ ((V8 80 (Int32.toNatClampNeg y11))).toInt ≤ 23 := hMV8 80 (Int32.toNatClampNeg y11)
          refine lv_iload_n hx hb dX12_isCandidate_30 rfl (lv_at hl 5 rfl) ?_
          refine lv_icmp_ne (tgt := 38) hx hb dX12_isCandidate_31 (by decide) (fun c23 => ?_) (fun c23 => ?_)
          · skip
            have f24 : ((V8 80 (Int32.toNatClampNeg y11))).toInt ≠ p1.toInt := b_neq rfl rfl c23
            refine lv_iconst (v := 0) hx hb dX12_isCandidate_38 (by decide) ?_
            refine lv_istore (lv' := [(4, .int 0), (5, .int y11), (3, .int z3), (0, .ref (ad 0)), (1, .int p0), (2, .int p1)]) hx hb dX12_isCandidate_39 hl (by decide) rfl (fun ls hl => ?_)
            obtain ⟨z25, ez25⟩ : ∃ y : Int32, y = y11 + 1 := ⟨_, rfl⟩
            have hz25 : z25.toInt = y11.toInt + 1 := i_add ez25 rfl (by decide) (by (first | exact om_ef5c713ba60b rgz3.2 klp13_0.1 f16 | omega))
            refine lv_iinc (v := z25) (lv' := [(5, .int z25), (4, .int 0), (3, .int z3), (0, .ref (ad 0)), (1, .int p0), (2, .int p1)]) hx hb dX12_isCandidate_41 hl (k := 1) rfl (by rw [ez25]; rfl) (by decide) rfl (fun ls hl => ?_)
            refine lv_goto (tgt := 12) hx hb dX12_isCandidate_44 (by decide) ?_
            have r26 : Int32.toInt 0 = 0 := by decide
            exact ihlp13 z25 0 H locs ls (by (first | exact om_66f93e1729e3 rgz3.2 klp13_0.1 f16 hz25 | omega)) (by decide) (show z25.toInt ≤ z3.toInt from by (first | exact om_7fe9249fc074 f16 hz25 | omega)) (Or.inr ⟨rfl, fun i hi h9 => by rcases Decidable.em (i = (Int32.toNatClampNeg y11)) with h8 | h8; (subst h8; omega); exact (xlp13_1.resolve_left (fun h7 => by have h6 := h7.1; omega)).2 i hi (by omega)⟩) (by (first | exact om_9e7d2b874257 hn hz25 | omega)) hP hD hS (lv_sub hl [0, 1, 2, 3, 4, 5] rfl)
          · skip
            have f27 : ((V8 80 (Int32.toNatClampNeg y11))).toInt = p1.toInt := b_eq rfl rfl c23
            refine lv_iconst (v := 1) hx hb dX12_isCandidate_34 (by decide) ?_
            refine lv_goto (tgt := 39) hx hb dX12_isCandidate_35 (by decide) ?_
            refine lv_istore (lv' := [(4, .int 1), (5, .int y11), (3, .int z3), (0, .ref (ad 0)), (1, .int p0), (2, .int p1)]) hx hb dX12_isCandidate_39 hl (by decide) rfl (fun ls hl => ?_)
            obtain ⟨z28, ez28⟩ : ∃ y : Int32, y = y11 + 1 := ⟨_, rfl⟩
            have hz28 : z28.toInt = y11.toInt + 1 := i_add ez28 rfl (by decide) (by (first | exact om_ef5c713ba60b rgz3.2 klp13_0.1 f16 | omega))
            refine lv_iinc (v := z28) (lv' := [(5, .int z28), (4, .int 1), (3, .int z3), (0, .ref (ad 0)), (1, .int p0), (2, .int p1)]) hx hb dX12_isCandidate_41 hl (k := 1) rfl (by rw [ez28]; rfl) (by decide) rfl (fun ls hl => ?_)
            refine lv_goto (tgt := 12) hx hb dX12_isCandidate_44 (by decide) ?_
            have r29 : Int32.toInt 1 = 1 := by decide
            exact ihlp13 z28 1 H locs ls (by (first | exact om_66f93e1729e3 rgz3.2 klp13_0.1 f16 hz28 | omega)) (by decide) (show z28.toInt ≤ z3.toInt from by (first | exact om_7fe9249fc074 f16 hz28 | omega)) (Or.inl ⟨rfl, List.mem_iff_getElem.mpr ⟨(Int32.toNatClampNeg y11), hK9, by omega⟩⟩) (by (first | exact om_9e7d2b874257 hn hz28 | omega)) hP hD hS (lv_sub hl [0, 1, 2, 3, 4, 5] rfl)
  have r30 : Int32.toInt 0 = 0 := by decide
  exact lp13 ((z3.toInt - (Int32.toInt 0) + 1 : Int).toNat) 0 0 H locs ls (by decide) (by decide) (show (Int32.toInt 0) ≤ z3.toInt from by (first | exact om_6f9bb8cf3bec rgz3.1 r30 | omega)) (Or.inr ⟨rfl, fun i _ h9 => absurd h9 (by rw [show (Int32.toInt 0).toNat = 0 from by decide]; exact Nat.not_lt_zero _)⟩) (by (first | exact om_7441a7786481 | omega)) hP hD hS (lv_sub hl [0, 1, 2, 3, 4, 5] rfl)
end
section

abbrev q_s_closesD (D : va_G) (ks : KS) (ad : Nat → Nat) (kk : Nat → ClassId) (V : Vf) (L : Lf) (p0 : Int32) (gB : Bk) (grk : Nat → Nat) (gr : List Fr) (ga : Int32) (gs : Int) (gt : Int) (gu : Int) (glv : Int) (go : Int) (gc : Int) (gsc : Int) (gme : Int) (A : Nat → Prop) : Array Value → State → Outcome → State → Prop := va_Qi (fun (r : Int32) (u : Vf × Lf) => rgd bM u.1 ∧ agr [(0, 60), (0, 65), (0, 68), (0, 69), (0, 73), (0, 76), (0, 90), (0, 91), (0, 92), (0, 93), (0, 95), (0, 96), (0, 98)] [59, 61, 62, 63, 64, 66, 67, 74, 75, 77, 78, 79, 80, 94, 97] V u.1 ∧ u.2 = L ∧ (0 ≤ r.toInt ∧ r.toInt ≤ 1) ∧ ((u.1 0 93).toInt = (V 0 93).toInt) ∧ ((u.1 0 98).toInt = (V 0 98).toInt) ∧ ((V 0 60).toInt ≤ (u.1 0 60).toInt) ∧ ((V 0 65).toInt ≤ (u.1 0 65).toInt) ∧ ((u.1 0 65).toInt - (V 0 65).toInt ≤ (u.1 0 60).toInt - (V 0 60).toInt) ∧ ((u.1 0 73).toInt + (u.1 0 95).toInt - (u.1 0 65).toInt ≤ (V 0 73).toInt + (V 0 95).toInt - (V 0 65).toInt + 1) ∧ ((V 0 73).toInt ≤ (u.1 0 73).toInt) ∧ ((V 0 69).toInt ≤ (u.1 0 69).toInt) ∧ ((u.1 0 95).toInt = (V 0 95).toInt) ∧ ((u.1 0 76).toInt - (u.1 0 69).toInt - (u.1 0 73).toInt ≤ (V 0 76).toInt - (V 0 69).toInt - (V 0 73).toInt) ∧ ((u.1 63 (Int32.toNatClampNeg p0)).toInt = 2) ∧ (RT u.1) ∧ (FRM V u.1 (-1)) ∧ (RJm u.1 gB) ∧ (PLK V u.1 (V 0 98).toInt.toNat) ∧ (DCl gB (mV V 0 gt gu, ga, Fclo0 glv go gc gsc :: gr) u.1 gr r.toInt)) (fun u t => gq D A (mw ad kk ks.1 u.1 u.2) (mty kk) t) A
def K_s_closesD (l : Launch) (D : va_G) (ks : KS) (d1 d2 : Nat) : Prop := ∀ (sz : Nat) (ad : Nat → Nat) (kk : Nat → ClassId) (V : Vf) (L : Lf) (p0 : Int32) (gB : Bk) (grk : Nat → Nat) (gr : List Fr) (ga : Int32) (gs : Int) (gt : Int) (gu : Int) (glv : Int) (go : Int) (gc : Int) (gsc : Int) (gme : Int) (hMV : rgd bM V) (rg_p0 : 0 ≤ p0.toInt ∧ p0.toInt ≤ 299) (rt : RT V) (n1 : (V 0 65).toInt ≤ (V 0 60).toInt) (n2 : (V 0 95).toInt ≤ (V 0 65).toInt) (n3 : (V 0 73).toInt + (V 0 95).toInt - (V 0 65).toInt ≤ 999000) (n4 : (V 0 76).toInt - (V 0 69).toInt - (V 0 73).toInt ≤ 1000000000) (n5 : 300 - (V 0 60).toInt ≤ (d1 : Int)) (n6 : 10 - (V 0 93).toInt ≤ (d2 : Int)) (bk : BKm V gB) (br : BKr gB grk) (rj : RJm V gB) (hl9 : ((gr.length : Nat) : Int) ≤ 28 * (V 0 93).toInt + 25) (hp9 : ((totP gr : Nat) : Int) ≤ 84 * (V 0 93).toInt + 56) (oq1 : p0.toInt < (V 0 60).toInt) (n7 : (V 0 98).toInt + 400 * (d2 : Int) + 30 ≤ 19000) (st1 : 1 ≤ (V 63 (Int32.toNatClampNeg p0)).toInt) (zl9 : (V 0 93).toInt = glv) (zo9 : p0.toInt = go) (zc9 : (V 61 (Int32.toNatClampNeg p0)).toInt = gc) (zs9 : (V 62 (Int32.toNatClampNeg p0)).toInt = gsc) (cm9 : CMPo V gB (Int32.toNatClampNeg p0)) , Met l yX12_closes (Cond.code yX12_closes cX12_closes 4 (some .boolean) :: GW) (rK2 (4 * d1 + 40 * d2 + 13) (100 * d1 + 1000 * d2 + 500)) (va_Pc [.ref (ad 0), .int p0] (gp D ks (mw ad kk ks.1 V L) (mty kk) sz)) (q_s_closesD D ks ad kk V L p0 gB grk gr ga gs gt gu glv go gc gsc gme (va_A (mw ad kk ks.1 V L) sz)) 0 0 (va_A (mw ad kk ks.1 V L) sz)
abbrev q_s_makesD (D : va_G) (ks : KS) (ad : Nat → Nat) (kk : Nat → ClassId) (V : Vf) (L : Lf) (p0 : Int32) (p1 : Int32) (p2 : Int32) (gB : Bk) (grk : Nat → Nat) (gr : List Fr) (ga : Int32) (gs : Int) (gt : Int) (gu : Int) (glv : Int) (go : Int) (gc : Int) (gsc : Int) (gme : Int) (A : Nat → Prop) : Array Value → State → Outcome → State → Prop := va_Qi (fun (r : Int32) (u : Vf × Lf) => rgd bM u.1 ∧ agr [(0, 60), (0, 65), (0, 68), (0, 69), (0, 73), (0, 76), (0, 90), (0, 91), (0, 92), (0, 93), (0, 95), (0, 96), (0, 98)] [59, 61, 62, 63, 64, 66, 67, 74, 75, 77, 78, 79, 80, 94, 97] V u.1 ∧ u.2 = L ∧ (0 ≤ r.toInt ∧ r.toInt ≤ 2) ∧ ((u.1 0 93).toInt = (V 0 93).toInt) ∧ ((u.1 0 98).toInt = (V 0 98).toInt) ∧ ((V 0 60).toInt ≤ (u.1 0 60).toInt) ∧ ((V 0 65).toInt ≤ (u.1 0 65).toInt) ∧ ((u.1 0 65).toInt - (V 0 65).toInt ≤ (u.1 0 60).toInt - (V 0 60).toInt) ∧ ((u.1 0 73).toInt + (u.1 0 95).toInt - (u.1 0 65).toInt ≤ (V 0 73).toInt + (V 0 95).toInt - (V 0 65).toInt) ∧ ((V 0 73).toInt ≤ (u.1 0 73).toInt) ∧ ((V 0 69).toInt ≤ (u.1 0 69).toInt) ∧ ((V 0 95).toInt ≤ (u.1 0 95).toInt) ∧ ((u.1 0 95).toInt - (V 0 95).toInt ≤ (u.1 0 65).toInt - (V 0 65).toInt) ∧ ((u.1 0 76).toInt - (u.1 0 69).toInt - (u.1 0 73).toInt ≤ (V 0 76).toInt - (V 0 69).toInt - (V 0 73).toInt) ∧ (Imp (r.toInt = 0) (0 ≤ (u.1 0 92).toInt ∧ (u.1 0 92).toInt < (u.1 0 60).toInt)) ∧ (Imp (r.toInt = 0) ((u.1 61 (Int32.toNatClampNeg (u.1 0 92))).toInt = p0.toInt ∧ 1 ≤ (u.1 63 (Int32.toNatClampNeg (u.1 0 92))).toInt)) ∧ (RT u.1) ∧ (FRM V u.1 (-1)) ∧ (RJm u.1 gB) ∧ (PLK V u.1 (V 0 98).toInt.toNat) ∧ (DPc gB (makeM (mV V gs gt gu) ga gr gc gsc glv) u.1 gr r.toInt (u.1 0 92) (24 * (10 - (V 0 93).toInt) + ((grk gc.toNat : Nat) : Int)))) (fun u t => gq D A (mw ad kk ks.1 u.1 u.2) (mty kk) t) A
def K_s_makesD (l : Launch) (D : va_G) (ks : KS) (d1 d2 : Nat) : Prop := ∀ (sz : Nat) (ad : Nat → Nat) (kk : Nat → ClassId) (V : Vf) (L : Lf) (p0 : Int32) (p1 : Int32) (p2 : Int32) (gB : Bk) (grk : Nat → Nat) (gr : List Fr) (ga : Int32) (gs : Int) (gt : Int) (gu : Int) (glv : Int) (go : Int) (gc : Int) (gsc : Int) (gme : Int) (hMV : rgd bM V) (rg_p0 : 0 ≤ p0.toInt ∧ p0.toInt ≤ 23) (rg_p1 : 0 ≤ p1.toInt ∧ p1.toInt ≤ 39) (rg_p2 : 0 ≤ p2.toInt ∧ p2.toInt ≤ 1) (rt : RT V) (n1 : (V 0 65).toInt ≤ (V 0 60).toInt) (n2 : (V 0 95).toInt ≤ (V 0 65).toInt) (n3 : (V 0 73).toInt + (V 0 95).toInt - (V 0 65).toInt ≤ 999000) (n4 : (V 0 76).toInt - (V 0 69).toInt - (V 0 73).toInt ≤ 1000000000) (n5 : 300 - (V 0 60).toInt ≤ (d1 : Int)) (n6 : 10 - (V 0 93).toInt ≤ (d2 : Int)) (bk : BKm V gB) (br : BKr gB grk) (rj : RJm V gB) (hs9 : gs = 2 → 0 ≤ gt ∧ gt ≤ 10000) (hl9 : ((gr.length : Nat) : Int) ≤ 28 * (V 0 93).toInt + 24 - ((grk gc.toNat : Nat) : Int)) (hp9 : ((totP gr : Nat) : Int) ≤ 84 * (V 0 93).toInt) (n7 : (V 0 98).toInt + 400 * (d2 : Int) + 30 ≤ 19000) (tq : th V (Int32.toNatClampNeg p0)) (zl9 : (V 0 93).toInt = glv) (zc9 : p0.toInt = gc) (zs9 : p1.toInt = gsc) (fq9 : (p2.toInt = 1) ↔ bS gB gc.toNat = 3) , Met l yX12_makes (Cond.code yX12_makes cX12_makes 6 (some .int) :: GW) (rK2 (4 * d1 + 40 * d2 + 14) (100 * d1 + 1000 * d2 + 560)) (va_Pc [.ref (ad 0), .int p0, .int p1, .int p2] (gp D ks (mw ad kk ks.1 V L) (mty kk) sz)) (q_s_makesD D ks ad kk V L p0 p1 p2 gB grk gr ga gs gt gu glv go gc gsc gme (va_A (mw ad kk ks.1 V L) sz)) 0 0 (va_A (mw ad kk ks.1 V L) sz)
abbrev q_s_getsD (D : va_G) (ks : KS) (ad : Nat → Nat) (kk : Nat → ClassId) (V : Vf) (L : Lf) (p0 : Int32) (p1 : Int32) (gB : Bk) (grk : Nat → Nat) (gr : List Fr) (ga : Int32) (gs : Int) (gt : Int) (gu : Int) (glv : Int) (go : Int) (gc : Int) (gsc : Int) (gme : Int) (A : Nat → Prop) : Array Value → State → Outcome → State → Prop := va_Qi (fun (r : Int32) (u : Vf × Lf) => rgd bM u.1 ∧ agr [(0, 60), (0, 65), (0, 68), (0, 69), (0, 73), (0, 76), (0, 90), (0, 91), (0, 92), (0, 93), (0, 95), (0, 96), (0, 98)] [59, 61, 62, 63, 64, 66, 67, 74, 75, 77, 78, 79, 80, 94, 97] V u.1 ∧ u.2 = L ∧ (0 ≤ r.toInt ∧ r.toInt ≤ 2) ∧ ((u.1 0 93).toInt = (V 0 93).toInt) ∧ ((u.1 0 98).toInt = (V 0 98).toInt) ∧ ((V 0 60).toInt ≤ (u.1 0 60).toInt) ∧ ((V 0 65).toInt ≤ (u.1 0 65).toInt) ∧ ((u.1 0 65).toInt - (V 0 65).toInt ≤ (u.1 0 60).toInt - (V 0 60).toInt) ∧ ((u.1 0 73).toInt + (u.1 0 95).toInt - (u.1 0 65).toInt ≤ (V 0 73).toInt + (V 0 95).toInt - (V 0 65).toInt) ∧ ((V 0 73).toInt ≤ (u.1 0 73).toInt) ∧ ((V 0 69).toInt ≤ (u.1 0 69).toInt) ∧ ((V 0 95).toInt ≤ (u.1 0 95).toInt) ∧ ((u.1 0 95).toInt - (V 0 95).toInt ≤ (u.1 0 65).toInt - (V 0 65).toInt) ∧ ((u.1 0 76).toInt - (u.1 0 69).toInt - (u.1 0 73).toInt ≤ (V 0 76).toInt - (V 0 69).toInt - (V 0 73).toInt) ∧ (Imp (r.toInt = 0) (0 ≤ (u.1 0 92).toInt ∧ (u.1 0 92).toInt < (u.1 0 60).toInt)) ∧ (Imp (r.toInt = 0) ((u.1 61 (Int32.toNatClampNeg (u.1 0 92))).toInt = p0.toInt ∧ 1 ≤ (u.1 63 (Int32.toNatClampNeg (u.1 0 92))).toInt)) ∧ (RT u.1) ∧ (FRM V u.1 (-1)) ∧ (RJm u.1 gB) ∧ (PLK V u.1 (V 0 98).toInt.toNat) ∧ (DPc gB (seekM gB (mV V gs gt gu) ga gr gc gsc glv) u.1 gr r.toInt (u.1 0 92) (24 * (10 - (V 0 93).toInt) + ((grk gc.toNat : Nat) : Int)))) (fun u t => gq D A (mw ad kk ks.1 u.1 u.2) (mty kk) t) A
def K_s_getsD (l : Launch) (D : va_G) (ks : KS) (d1 d2 : Nat) : Prop := ∀ (sz : Nat) (ad : Nat → Nat) (kk : Nat → ClassId) (V : Vf) (L : Lf) (p0 : Int32) (p1 : Int32) (gB : Bk) (grk : Nat → Nat) (gr : List Fr) (ga : Int32) (gs : Int) (gt : Int) (gu : Int) (glv : Int) (go : Int) (gc : Int) (gsc : Int) (gme : Int) (hMV : rgd bM V) (rg_p0 : 0 ≤ p0.toInt ∧ p0.toInt ≤ 23) (rg_p1 : 0 ≤ p1.toInt ∧ p1.toInt ≤ 39) (rt : RT V) (n1 : (V 0 65).toInt ≤ (V 0 60).toInt) (n2 : (V 0 95).toInt ≤ (V 0 65).toInt) (n3 : (V 0 73).toInt + (V 0 95).toInt - (V 0 65).toInt ≤ 999000) (n4 : (V 0 76).toInt - (V 0 69).toInt - (V 0 73).toInt ≤ 1000000000) (n5 : 300 - (V 0 60).toInt ≤ (d1 : Int)) (n6 : 10 - (V 0 93).toInt ≤ (d2 : Int)) (bk : BKm V gB) (br : BKr gB grk) (rj : RJm V gB) (hs9 : gs = 2 → 0 ≤ gt ∧ gt ≤ 10000) (hl9 : ((gr.length : Nat) : Int) ≤ 28 * (V 0 93).toInt + 24 - ((grk gc.toNat : Nat) : Int)) (hp9 : ((totP gr : Nat) : Int) ≤ 84 * (V 0 93).toInt) (n7 : (V 0 98).toInt + 400 * (d2 : Int) + 30 ≤ 19000) (tq : th V (Int32.toNatClampNeg p0)) (zl9 : (V 0 93).toInt = glv) (zc9 : p0.toInt = gc) (zs9 : p1.toInt = gsc) , Met l yX12_gets (Cond.code yX12_gets cX12_gets 6 (some .int) :: GW) (rK2 (4 * d1 + 40 * d2 + 15) (100 * d1 + 1000 * d2 + 590)) (va_Pc [.ref (ad 0), .int p0, .int p1] (gp D ks (mw ad kk ks.1 V L) (mty kk) sz)) (q_s_getsD D ks ad kk V L p0 p1 gB grk gr ga gs gt gu glv go gc gsc gme (va_A (mw ad kk ks.1 V L) sz)) 0 0 (va_A (mw ad kk ks.1 V L) sz)
abbrev q_s_getsWholeD (D : va_G) (ks : KS) (ad : Nat → Nat) (kk : Nat → ClassId) (V : Vf) (L : Lf) (p0 : Int32) (p1 : Int32) (gB : Bk) (grk : Nat → Nat) (gr : List Fr) (ga : Int32) (gs : Int) (gt : Int) (gu : Int) (glv : Int) (go : Int) (gc : Int) (gsc : Int) (gme : Int) (gmk : Int) (A : Nat → Prop) : Array Value → State → Outcome → State → Prop := va_Qi (fun (r : Int32) (u : Vf × Lf) => rgd bM u.1 ∧ agr [(0, 60), (0, 65), (0, 68), (0, 69), (0, 73), (0, 76), (0, 90), (0, 91), (0, 92), (0, 93), (0, 95), (0, 96), (0, 98)] [59, 61, 62, 63, 64, 66, 67, 74, 75, 77, 78, 79, 80, 94, 97] V u.1 ∧ u.2 = L ∧ (0 ≤ r.toInt ∧ r.toInt ≤ 2) ∧ ((u.1 0 93).toInt = (V 0 93).toInt) ∧ ((u.1 0 98).toInt = (V 0 98).toInt) ∧ ((V 0 60).toInt ≤ (u.1 0 60).toInt) ∧ ((V 0 65).toInt ≤ (u.1 0 65).toInt) ∧ ((u.1 0 65).toInt - (V 0 65).toInt ≤ (u.1 0 60).toInt - (V 0 60).toInt) ∧ ((u.1 0 73).toInt + (u.1 0 95).toInt - (u.1 0 65).toInt ≤ (V 0 73).toInt + (V 0 95).toInt - (V 0 65).toInt) ∧ ((V 0 73).toInt ≤ (u.1 0 73).toInt) ∧ ((V 0 69).toInt ≤ (u.1 0 69).toInt) ∧ ((u.1 0 95).toInt = (V 0 95).toInt) ∧ ((u.1 0 76).toInt - (u.1 0 69).toInt - (u.1 0 73).toInt ≤ (V 0 76).toInt - (V 0 69).toInt - (V 0 73).toInt) ∧ (Imp (r.toInt = 0) (0 ≤ (u.1 0 92).toInt ∧ (u.1 0 92).toInt < (u.1 0 60).toInt)) ∧ (Imp (r.toInt = 0) ((u.1 61 (Int32.toNatClampNeg (u.1 0 92))).toInt = p0.toInt ∧ 1 ≤ (u.1 63 (Int32.toNatClampNeg (u.1 0 92))).toInt)) ∧ (RT u.1) ∧ (FRM V u.1 (-1)) ∧ (RJm u.1 gB) ∧ (PLK V u.1 (V 0 98).toInt.toNat) ∧ (DPc gB (mV V gs gt gu, ga, Froot0 glv gc gsc gmk :: gr) u.1 gr r.toInt (u.1 0 92) (24 * (10 - (V 0 93).toInt) + 23))) (fun u t => gq D A (mw ad kk ks.1 u.1 u.2) (mty kk) t) A
def K_s_getsWholeD (l : Launch) (D : va_G) (ks : KS) (d1 d2 : Nat) : Prop := ∀ (sz : Nat) (ad : Nat → Nat) (kk : Nat → ClassId) (V : Vf) (L : Lf) (p0 : Int32) (p1 : Int32) (gB : Bk) (grk : Nat → Nat) (gr : List Fr) (ga : Int32) (gs : Int) (gt : Int) (gu : Int) (glv : Int) (go : Int) (gc : Int) (gsc : Int) (gme : Int) (gmk : Int) (hMV : rgd bM V) (rg_p0 : 0 ≤ p0.toInt ∧ p0.toInt ≤ 23) (rg_p1 : 0 ≤ p1.toInt ∧ p1.toInt ≤ 39) (rt : RT V) (n1 : (V 0 65).toInt ≤ (V 0 60).toInt) (n2 : (V 0 95).toInt ≤ (V 0 65).toInt) (n3 : (V 0 73).toInt + (V 0 95).toInt - (V 0 65).toInt ≤ 999000) (n4 : (V 0 76).toInt - (V 0 69).toInt - (V 0 73).toInt ≤ 1000000000) (n5 : 300 - (V 0 60).toInt ≤ (d1 : Int)) (n6 : 10 - (V 0 93).toInt ≤ (d2 : Int)) (bk : BKm V gB) (br : BKr gB grk) (rj : RJm V gB) (hs9 : gs = 2 → 0 ≤ gt ∧ gt ≤ 10000) (hl9 : ((gr.length : Nat) : Int) ≤ 28 * (V 0 93).toInt) (hp9 : ((totP gr : Nat) : Int) ≤ 84 * (V 0 93).toInt) (n7 : (V 0 98).toInt + 400 * (d2 : Int) + 30 ≤ 19000) (tq : th V (Int32.toNatClampNeg p0)) (zl9 : (V 0 93).toInt = glv) (zc9 : p0.toInt = gc) (zs9 : p1.toInt = gsc) (zk9 : (V 0 95).toInt = gmk) , Met l yX12_getsWhole (Cond.code yX12_getsWhole cX12_getsWhole 8 (some .int) :: GW) (rK2 (4 * d1 + 40 * d2 + 16) (100 * d1 + 1000 * d2 + 620)) (va_Pc [.ref (ad 0), .int p0, .int p1] (gp D ks (mw ad kk ks.1 V L) (mty kk) sz)) (q_s_getsWholeD D ks ad kk V L p0 p1 gB grk gr ga gs gt gu glv go gc gsc gme gmk (va_A (mw ad kk ks.1 V L) sz)) 0 0 (va_A (mw ad kk ks.1 V L) sz)
set_option maxHeartbeats 4000000 in
set_option maxRecDepth 100000 in
theorem s_getsD {l : Launch} {D : va_G} {ks : KS} {d1 d2 : Nat} (hk_s_makesD : K_s_makesD l D ks d1 d2) : K_s_getsD l D ks d1 d2 := by
  intro sz ad kk V L p0 p1 gB grk gr ga gs gt gu glv go gc gsc gme hMV rg_p0 rg_p1 rt n1 n2 n3 n4 n5 n6 bk br rj hs9 hl9 hp9 n7 tq zl9 zc9 zs9
  refine g_met (q_s_getsD D ks ad kk V L p0 p1 gB grk gr ga gs gt gu glv go gc gsc gme) (by decide) (Nat.le_of_ble_eq_true rfl) ?_
  intro p e s m below meth c A ls H locs hx hb hr hml hown hg hlocks hin hnw hgk hP hK hD hS hA hl
  have hown : s.vm.findClass RX12 = some m.cls := hown
  have hl : lv_has ls 6 [(0, .ref (ad 0)), (1, .int p0), (2, .int p1)] := hl
  have hP : va_P D vwCl (mw ad kk ks.1 V L) H := hP
  have hD : va_D A (mw ad kk ks.1 V L) := hD
  have hK : va_K D vwCl (mty kk) s := hK
  have agV : agr [(0, 60), (0, 65), (0, 68), (0, 69), (0, 73), (0, 76), (0, 90), (0, 91), (0, 92), (0, 93), (0, 95), (0, 96), (0, 98)] [59, 61, 62, 63, 64, 66, 67, 74, 75, 77, 78, 79, 80, 94, 97] V V := agr.rf
  have r1 : 0 ≤ ((V 0 65)).toInt ∧ ((V 0 65)).toInt ≤ 1000000 := hMV 0 65
  have r2 : 0 ≤ ((V 0 60)).toInt ∧ ((V 0 60)).toInt ≤ 300 := hMV 0 60
  have r3 : 0 ≤ ((V 0 95)).toInt ∧ ((V 0 95)).toInt ≤ 300 := hMV 0 95
  have r4 : 0 ≤ ((V 0 73)).toInt ∧ ((V 0 73)).toInt ≤ 1000000 := hMV 0 73
  have r5 : 0 ≤ ((V 0 76)).toInt ∧ ((V 0 76)).toInt ≤ 2000000000 := hMV 0 76
  have r6 : 0 ≤ ((V 0 69)).toInt ∧ ((V 0 69)).toInt ≤ 3000 := hMV 0 69
  have r7 : 0 ≤ ((V 0 93)).toInt ∧ ((V 0 93)).toInt ≤ 10 := hMV 0 93
  have r8 : 0 ≤ ((V 0 98)).toInt ∧ ((V 0 98)).toInt ≤ 20000 := hMV 0 98
  have kc9 := i_clamp (x := p0) rfl (by (first | exact om_eafa9039069c rg_p0.1 | omega))
  have gc9 : gc.toNat = Int32.toNatClampNeg p0 := by rw [← zc9]; rfl
  have th9 := BKm.thI bk br.2.2.2.2.2.1 br.2.2.2.2.2.2.2.2.1 tq
  have cl9 := th9.1
  have rk9 := br.2.2.2.1 _ cl9 th9.2
  have rk8 : grk gc.toNat = grk (Int32.toNatClampNeg p0) := by rw [gc9]
  refine lv_aload_n hx hb dX12_gets_0 rfl (lv_at hl 0 rfl) ?_
  refine lv_iload_n hx hb dX12_gets_1 rfl (lv_at hl 1 rfl) ?_
  refine lv_iload_n hx hb dX12_gets_2 rfl (lv_at hl 2 rfl) ?_
  refine gA_int (gA_runV (As := [.int p0, .int p1]) (rest := []) (ci := 12) (q0 := 0) hx hb hml hown hg hP hD hK hS hA hnw hgk (s_placeOf3 l D ks H.size ad kk V L p0 p1 (gB) (gs) (gt) (gu) hMV (by (first | exact om_d3435e1acec6 rg_p0.1 rg_p0.2 | omega)) (by (first | exact om_13ba01c174fe rg_p1.1 rg_p1.2 | omega)) bk cl9) w2243 w2245 w130 w172 w2246 rfl rfl hdV_yX12_placeOf ⟨(by show (0) + 1 ≤ (4 * d1 + 40 * d2 + 15); (first | exact om_6a44aa5f39d7 n6 r7.2 | omega)), (by show 8 + (4 + 11) + (0) ≤ (100 * d1 + 1000 * d2 + 590); (first | exact om_6728719961f2 n6 r7.2 | omega))⟩ rfl hl.1 rfl (Nat.le_of_ble_eq_true rfl) dX12_gets_3 ⟨Nat.le_of_ble_eq_true rfl, Nat.le_of_ble_eq_true rfl⟩) hP hD hK hS hA (fun z9 u10 H locs w11 hP hD hK hS => ?_)
  obtain ⟨rgz9, t12⟩ := w11
  have rgz9 : (-1) ≤ z9.toInt ∧ z9.toInt ≤ 39 := rgz9
  have t12 : z9.toInt = plc (mV V (gs) (gt) (gu)) (bS (gB) (Int32.toNatClampNeg p0)) p1.toInt := t12
  refine lv_istore_n (lv' := [(3, .int z9), (0, .ref (ad 0)), (1, .int p0), (2, .int p1)]) hx hb dX12_gets_6 rfl hl (by decide) rfl (fun ls hl => ?_)
  have pl9 : plc (mV V gs gt gu) (bS gB gc.toNat) gsc = z9.toInt := by rw [gc9, ← zs9]; exact t12.symm
  refine lv_iload_n hx hb dX12_gets_7 rfl (lv_at hl 0 rfl) ?_
  refine lv_if_ge (tgt := 18) hx hb dX12_gets_8 (by decide) (fun c13 => ?_) (fun c13 => ?_)
  · skip
    have f14 : 0 ≤ z9.toInt := b_le (by decide) rfl c13
    refine lv_aload_n hx hb dX12_gets_18 rfl (lv_at hl 1 rfl) ?_
    refine va_get (D := D) (ci := 12) (v := .ref (ad 22)) (C := RX12) (T := TX12) (N := 100) hx hb hg inX12 hown hK hP 0 rfl rfl 22 (by decide) (hg _ w1728) (fun _ h9 => h9) rfl dX12_gets_19 ?_
    refine lv_bipush (v := 24) hx hb dX12_gets_22 (by decide) ?_
    refine lv_aload_n hx hb dX12_gets_24 rfl (lv_at hl 1 rfl) ?_
    refine va_get (D := D) (ci := 12) (v := .int (V 0 11)) (C := RX12) (T := TX12) (N := 100) hx hb hg inX12 hown hK hP 0 rfl rfl 11 (by decide) (hg _ w1717) (fun _ h9 => h9) rfl dX12_gets_25 ?_
    have r15 : 0 ≤ ((V 0 11)).toInt ∧ ((V 0 11)).toInt ≤ 1 := hMV 0 11
    refine lv_imul hx hb dX12_gets_28 ?_
    refine lv_topi (fun z16 ez16 => ?_)
    have hz16 : z16.toInt = 24 * ((V 0 11)).toInt := i_mul ez16 (by decide) rfl (by (first | exact om_3f8aba7b6ce1 r15.1 r15.2 | omega))
    refine lv_iload_n hx hb dX12_gets_29 rfl (lv_at hl 2 rfl) ?_
    refine lv_iadd hx hb dX12_gets_30 ?_
    refine lv_topi (fun z17 ez17 => ?_)
    have hz17 : z17.toInt = z16.toInt + p0.toInt := i_add ez17 rfl rfl (by (first | exact om_6c84dfc0d33f rg_p0.1 rg_p0.2 r15.1 r15.2 hz16 | omega))
    have kn9 : (nwh V : Int) = (V 0 11).toInt := i_clamp (x := V 0 11) rfl (by (first | exact om_eafa9039069c r15.1 | omega))
    have kz2 : Int32.toNatClampNeg z17 = 24 * nwh V + Int32.toNatClampNeg p0 := by have h9 := i_clamp (x := z17) rfl (by (first | exact om_11587583f9f8 rg_p0.1 r15.1 hz16 hz17 | omega)); (first | exact om_c817cff9597c kc9 hz16 hz17 kn9 h9 | omega)
    have c22 : (V 22 (Int32.toNatClampNeg z17)).toInt = ((bS gB gc.toNat : Nat) : Int) := by rw [kz2, gc9]; exact (bk.2.2.2.1.2.2 (Int32.toNatClampNeg p0) cl9).1.2.1
    refine va_iald (D := D) (i := z17) hx hb hK hP 15 14 rfl rfl (i_in (a := z17.toInt) rfl (by (first | exact om_cf341bf82a51 rg_p0.1 rg_p0.2 r15.1 r15.2 hz16 hz17 | omega))) dX12_gets_31 ?_
    refine lv_iconst (v := 3) hx hb dX12_gets_32 (by decide) ?_
    refine lv_icmp_ne (tgt := 40) hx hb dX12_gets_33 (by decide) (fun c18 => ?_) (fun c18 => ?_)
    · skip
      have f19 : ((V 22 (Int32.toNatClampNeg z17))).toInt ≠ 3 := b_neq rfl (by decide) c18
      refine lv_iconst (v := 0) hx hb dX12_gets_40 (by decide) ?_
      refine lv_istore (lv' := [(4, .int 0), (3, .int z9), (0, .ref (ad 0)), (1, .int p0), (2, .int p1)]) hx hb dX12_gets_41 hl (by decide) rfl (fun ls hl => ?_)
      refine lv_aload_n hx hb dX12_gets_43 rfl (lv_at hl 2 rfl) ?_
      refine va_get (D := D) (ci := 12) (v := .ref (ad 59)) (C := RX12) (T := TX12) (N := 100) hx hb hg inX12 hown hK hP 0 rfl rfl 59 (by decide) (hg _ w1765) (fun _ h9 => h9) rfl dX12_gets_44 ?_
      refine lv_bipush (v := 24) hx hb dX12_gets_47 (by decide) ?_
      refine lv_iload_n hx hb dX12_gets_49 rfl (lv_at hl 1 rfl) ?_
      refine lv_imul hx hb dX12_gets_50 ?_
      refine lv_topi (fun z20 ez20 => ?_)
      have hz20 : z20.toInt = 24 * z9.toInt := i_mul ez20 (by decide) rfl (by (first | exact om_3b98457e2d8a rgz9.2 f14 | omega))
      refine lv_iload_n hx hb dX12_gets_51 rfl (lv_at hl 3 rfl) ?_
      refine lv_iadd hx hb dX12_gets_52 ?_
      refine lv_topi (fun z21 ez21 => ?_)
      have hz21 : z21.toInt = z20.toInt + p0.toInt := i_add ez21 rfl rfl (by (first | exact om_f1d4697d758d rg_p0.1 rg_p0.2 rgz9.2 f14 hz20 | omega))
      have kz9 : Int32.toNatClampNeg z21 = 24 * z9.toInt.toNat + gc.toNat := by have h9 := i_clamp (x := z21) rfl (by (first | exact om_11587583f9f8 rg_p0.1 f14 hz20 hz21 | omega)); rw [gc9]; omega
      refine va_zald (D := D) (i := z21) hx hb hK hP 45 44 rfl rfl (i_in (a := z21.toInt) rfl (by (first | exact om_b108857776dc rg_p0.1 rg_p0.2 rgz9.2 f14 hz20 hz21 | omega))) dX12_gets_53 ?_
      have r22 : 0 ≤ ((V 59 (Int32.toNatClampNeg z21))).toInt ∧ ((V 59 (Int32.toNatClampNeg z21))).toInt ≤ 1 := hMV 59 (Int32.toNatClampNeg z21)
      refine lv_if_eq (tgt := 64) hx hb dX12_gets_54 (by decide) (fun c23 => ?_) (fun c23 => ?_)
      · skip
        have f24 : ((V 59 (Int32.toNatClampNeg z21))).toInt = 0 := b_eq rfl (by decide) c23
        have ns9 : ¬ mV V gs gt gu 8 (24 * z9.toInt.toNat + gc.toNat) ≠ 0 := fun h9 => h9 (show (V 59 _).toInt = 0 from by rw [← kz9]; omega)
        refine lv_iload hx hb dX12_gets_64 (lv_at hl 0 rfl) ?_
        refine lv_if_eq (tgt := 73) hx hb dX12_gets_66 (by decide) (fun _ => ?_) (fun q => absurd (by decide) q)
        refine lv_aload_n hx hb dX12_gets_73 rfl (lv_at hl 2 rfl) ?_
        refine lv_iload_n hx hb dX12_gets_74 rfl (lv_at hl 3 rfl) ?_
        refine lv_iload_n hx hb dX12_gets_75 rfl (lv_at hl 1 rfl) ?_
        refine gA_int (gA_runV (As := [.int p0, .int z9]) (rest := []) (ci := 12) (q0 := 0) hx hb hml hown hg hP hD hK hS hA hnw hgk (s_objectAt3 l D ks H.size ad kk V L p0 z9 (gB) (gs) (gt) (gu) hMV (by (first | exact om_d3435e1acec6 rg_p0.1 rg_p0.2 | omega)) (by (first | exact om_8588804ef24d rgz9.2 f14 | omega))) w2251 w2253 w132 w172 w2254 rfl rfl hdV_yX12_objectAt ⟨(by show (0) + 1 ≤ (4 * d1 + 40 * d2 + 15); (first | exact om_6a44aa5f39d7 n6 r7.2 | omega)), (by show 8 + (5 + 11) + (0) ≤ (100 * d1 + 1000 * d2 + 590); (first | exact om_0299e32c765d n6 r7.2 | omega))⟩ rfl hl.1 rfl (Nat.le_of_ble_eq_true rfl) dX12_gets_76 ⟨Nat.le_of_ble_eq_true rfl, Nat.le_of_ble_eq_true rfl⟩) hP hD hK hS hA (fun z25 u26 H locs w27 hP hD hK hS => ?_)
        obtain ⟨rgz25, t28, t29⟩ := w27
        have rgz25 : (-1) ≤ z25.toInt ∧ z25.toInt ≤ 299 := rgz25
        have t28 : z25.toInt < (V 0 60).toInt := t28
        have t29 : z25.toInt = prs (mV V (gs) (gt) (gu)) z9.toInt p0.toInt (V 0 60).toInt.toNat := t29
        refine lv_istore (lv' := [(5, .int z25), (4, .int 0), (3, .int z9), (0, .ref (ad 0)), (1, .int p0), (2, .int p1)]) hx hb dX12_gets_79 hl (by decide) rfl (fun ls hl => ?_)
        have ox9 : z25.toInt = prs (mV V gs gt gu) z9.toInt gc (V 0 60).toInt.toNat := by rw [← zc9]; exact t29
        refine lv_iload hx hb dX12_gets_81 (lv_at hl 0 rfl) ?_
        refine lv_if_lt (tgt := 103) hx hb dX12_gets_83 (by decide) (fun c30 => ?_) (fun c30 => ?_)
        · skip
          have f31 : z25.toInt < 0 := b_lt rfl (by decide) c30
          refine lv_iload hx hb dX12_gets_103 (lv_at hl 0 rfl) ?_
          refine lv_if_lt (tgt := 116) hx hb dX12_gets_105 (by decide) (fun c32 => ?_) (fun c32 => ?_)
          · skip
            have f33 : z25.toInt < 0 := b_lt rfl (by decide) c32
            refine lv_aload_n hx hb dX12_gets_116 rfl (lv_at hl 3 rfl) ?_
            refine lv_iload_n hx hb dX12_gets_117 rfl (lv_at hl 4 rfl) ?_
            refine lv_iload_n hx hb dX12_gets_118 rfl (lv_at hl 2 rfl) ?_
            refine lv_iload hx hb dX12_gets_119 (lv_at hl 1 rfl) ?_
            have r34 : Int32.toInt 0 = 0 := by decide
            refine gA_int (gA_runV (As := [.int p0, .int z9, .int 0]) (rest := []) (ci := 12) (q0 := 0) hx hb hml hown hg hP hD hK hS hA hnw hgk (hk_s_makesD H.size ad kk V L p0 z9 0 (gB) (grk) (gr) (ga) (gs) (gt) (gu) (glv) (go) (gc) ((z9.toInt)) (gme) hMV (by omega) (by omega) (by decide) rt (show (V 0 65).toInt ≤ (V 0 60).toInt from by omega) (show (V 0 95).toInt ≤ (V 0 65).toInt from by omega) (show (V 0 73).toInt + (V 0 95).toInt - (V 0 65).toInt ≤ 999000 from by omega) (show (V 0 76).toInt - (V 0 69).toInt - (V 0 73).toInt ≤ 1000000000 from by omega) (show 300 - (V 0 60).toInt ≤ ((d1 : Nat) : Int) from by omega) (show 10 - (V 0 93).toInt ≤ ((d2 : Nat) : Int) from by omega) bk br rj hs9 (show (((gr).length : Nat) : Int) ≤ 28 * (V 0 93).toInt + 24 - (((grk) (gc).toNat : Nat) : Int) from by omega) (show ((totP (gr) : Nat) : Int) ≤ 84 * (V 0 93).toInt from by omega) (show (V 0 98).toInt + 400 * ((d2 : Nat) : Int) + 30 ≤ 19000 from by omega) tq (show (V 0 93).toInt = (glv) from by omega) (show p0.toInt = (gc) from by omega) (show z9.toInt = ((z9.toInt)) from by (first | exact om_4c2c879c4424 | omega)) ⟨fun h9 => by first | omega | exact absurd h9 (by decide), fun h9 => by first | rfl | (exfalso; (first | exact om_83a6a9035f51 ox9 f31 | omega))⟩) w2255 w2257 w133 w172 w2258 rfl rfl hdV_yX12_makes ⟨(by show (4 * (d1) + 40 * (d2) + 14) + 1 ≤ (4 * d1 + 40 * d2 + 15); (first | exact om_a14fe9afdc0a | omega)), (by show 8 + (6 + 11) + (100 * (d1) + 1000 * (d2) + 560) ≤ (100 * d1 + 1000 * d2 + 590); (first | exact om_0fc53bc74133 | omega))⟩ rfl hl.1 rfl (Nat.le_of_ble_eq_true rfl) dX12_gets_121 ⟨Nat.le_of_ble_eq_true rfl, Nat.le_of_ble_eq_true rfl⟩) hP hD hK hS hA (fun z35 u36 H locs w37 hP hD hK hS => ?_)
            obtain ⟨V56, L57⟩ := u36
            obtain ⟨hMV56, ajV56, axL57, rgz35, t38, t39, t40, t41, t42, t43, t44, t45, t46, t47, t48, t49, t50, t51, t52, t53, t54, t55⟩ := w37
            have axL57 : L = L57 := Eq.symm axL57
            subst axL57
            have hP : va_P D vwCl (mw ad kk ks.1 V56 L) H := hP
            have hD : va_D A (mw ad kk ks.1 V56 L) := hD
            have hMV56 : rgd bM V56 := hMV56
            have ajV56 : agr [(0, 60), (0, 65), (0, 68), (0, 69), (0, 73), (0, 76), (0, 90), (0, 91), (0, 92), (0, 93), (0, 95), (0, 96), (0, 98)] [59, 61, 62, 63, 64, 66, 67, 74, 75, 77, 78, 79, 80, 94, 97] V V56 := ajV56
            have agV56 : agr [(0, 60), (0, 65), (0, 68), (0, 69), (0, 73), (0, 76), (0, 90), (0, 91), (0, 92), (0, 93), (0, 95), (0, 96), (0, 98)] [59, 61, 62, 63, 64, 66, 67, 74, 75, 77, 78, 79, 80, 94, 97] V V56 := agV.tr ajV56 (by decide) (by decide)
            have rgz35 : 0 ≤ z35.toInt ∧ z35.toInt ≤ 2 := rgz35
            have t38 : (V56 0 93).toInt = (V 0 93).toInt := t38
            have t39 : (V56 0 98).toInt = (V 0 98).toInt := t39
            have t40 : (V 0 60).toInt ≤ (V56 0 60).toInt := t40
            have t41 : (V 0 65).toInt ≤ (V56 0 65).toInt := t41
            have t42 : (V56 0 65).toInt - (V 0 65).toInt ≤ (V56 0 60).toInt - (V 0 60).toInt := t42
            have t43 : (V56 0 73).toInt + (V56 0 95).toInt - (V56 0 65).toInt ≤ (V 0 73).toInt + (V 0 95).toInt - (V 0 65).toInt := t43
            have t44 : (V 0 73).toInt ≤ (V56 0 73).toInt := t44
            have t45 : (V 0 69).toInt ≤ (V56 0 69).toInt := t45
            have t46 : (V 0 95).toInt ≤ (V56 0 95).toInt := t46
            have t47 : (V56 0 95).toInt - (V 0 95).toInt ≤ (V56 0 65).toInt - (V 0 65).toInt := t47
            have t48 : (V56 0 76).toInt - (V56 0 69).toInt - (V56 0 73).toInt ≤ (V 0 76).toInt - (V 0 69).toInt - (V 0 73).toInt := t48
            have t49 : Imp (z35.toInt = 0) (0 ≤ (V56 0 92).toInt ∧ (V56 0 92).toInt < (V56 0 60).toInt) := t49
            have t50 : Imp (z35.toInt = 0) ((V56 61 (Int32.toNatClampNeg (V56 0 92))).toInt = p0.toInt ∧ 1 ≤ (V56 63 (Int32.toNatClampNeg (V56 0 92))).toInt) := t50
            have t51 : RT V56 := t51
            have t52 : FRM V V56 (-1) := t52
            have t53 : RJm V56 (gB) := t53
            have t54 : PLK V V56 (V 0 98).toInt.toNat := t54
            have t55 : DPc (gB) (makeM (mV V (gs) (gt) (gu)) (ga) (gr) (gc) ((z9.toInt)) (glv)) V56 (gr) z35.toInt (V56 0 92) (24 * (10 - (V 0 93).toInt) + (((grk) (gc).toNat : Nat) : Int)) := t55
            have r58 : 0 ≤ ((V56 0 93)).toInt ∧ ((V56 0 93)).toInt ≤ 10 := hMV56 0 93
            have r59 : 0 ≤ ((V56 0 98)).toInt ∧ ((V56 0 98)).toInt ≤ 20000 := hMV56 0 98
            have r60 : 0 ≤ ((V56 0 60)).toInt ∧ ((V56 0 60)).toInt ≤ 300 := hMV56 0 60
            have r61 : 0 ≤ ((V56 0 65)).toInt ∧ ((V56 0 65)).toInt ≤ 1000000 := hMV56 0 65
            have r62 : 0 ≤ ((V56 0 73)).toInt ∧ ((V56 0 73)).toInt ≤ 1000000 := hMV56 0 73
            have r63 : 0 ≤ ((V56 0 95)).toInt ∧ ((V56 0 95)).toInt ≤ 300 := hMV56 0 95
            have r64 : 0 ≤ ((V56 0 69)).toInt ∧ ((V56 0 69)).toInt ≤ 3000 := hMV56 0 69
            have r65 : 0 ≤ ((V56 0 76)).toInt ∧ ((V56 0 76)).toInt ≤ 2000000000 := hMV56 0 76
            have fm66 : FRM V V56 (-1) := (t52 : FRM V V56 (-1))
            have pk67 : PLK V V56 (V 0 98).toInt.toNat := (PLK.tr (PLK.rf : PLK V V (V 0 98).toInt.toNat) t54 (by (first | exact om_2b97926ac273 | omega)))
            have rp68 : DPc gB (seekM gB (mV V gs gt gu) ga gr gc gsc glv) V56 gr (z35.toInt) (V56 0 92) (24 * (10 - (V 0 93).toInt) + ((grk gc.toNat : Nat) : Int)) := by rw [sk_m pl9 (by omega) ns9 (Or.inr (show prs (mV V gs gt gu) z9.toInt gc (V 0 60).toInt.toNat < 0 from by rw [← ox9]; omega))]; exact t55
            exact W.iret (v := z35) hx hb hr (fun t ht hW => ⟨⟨z35, (V56, L), rfl, ⟨hMV56, agV56, rfl, (show 0 ≤ z35.toInt ∧ z35.toInt ≤ 2 from by first | omega | ((try (have i_t49 := Imp.go t49 (by omega))); omega)), (show (V56 0 93).toInt = (V 0 93).toInt from by first | omega | ((try (have i_t49 := Imp.go t49 (by omega))); omega)), (show (V56 0 98).toInt = (V 0 98).toInt from by first | omega | ((try (have i_t49 := Imp.go t49 (by omega))); omega)), (show (V 0 60).toInt ≤ (V56 0 60).toInt from by first | omega | ((try (have i_t49 := Imp.go t49 (by omega))); omega)), (show (V 0 65).toInt ≤ (V56 0 65).toInt from by first | omega | ((try (have i_t49 := Imp.go t49 (by omega))); omega)), (show (V56 0 65).toInt - (V 0 65).toInt ≤ (V56 0 60).toInt - (V 0 60).toInt from by first | omega | ((try (have i_t49 := Imp.go t49 (by omega))); omega)), (show (V56 0 73).toInt + (V56 0 95).toInt - (V56 0 65).toInt ≤ (V 0 73).toInt + (V 0 95).toInt - (V 0 65).toInt from by first | omega | ((try (have i_t49 := Imp.go t49 (by omega))); omega)), (show (V 0 73).toInt ≤ (V56 0 73).toInt from by first | omega | ((try (have i_t49 := Imp.go t49 (by omega))); omega)), (show (V 0 69).toInt ≤ (V56 0 69).toInt from by first | omega | ((try (have i_t49 := Imp.go t49 (by omega))); omega)), (show (V 0 95).toInt ≤ (V56 0 95).toInt from by first | omega | ((try (have i_t49 := Imp.go t49 (by omega))); omega)), (show (V56 0 95).toInt - (V 0 95).toInt ≤ (V56 0 65).toInt - (V 0 65).toInt from by first | omega | ((try (have i_t49 := Imp.go t49 (by omega))); omega)), (show (V56 0 76).toInt - (V56 0 69).toInt - (V56 0 73).toInt ≤ (V 0 76).toInt - (V 0 69).toInt - (V 0 73).toInt from by first | omega | ((try (have i_t49 := Imp.go t49 (by omega))); omega)), (Imp.mk (fun hp => have hp : z35.toInt = 0 := hp; (show 0 ≤ (V56 0 92).toInt ∧ (V56 0 92).toInt < (V56 0 60).toInt from by first | omega | ((try (have i_t49 := Imp.go t49 (by omega))); omega)))), t50, t51, fm66, t53, pk67, rp68⟩, by rw [ht]; exact hP, va_K.moved hW.alike hK, hD⟩, hS.F ht⟩) hS.2.2 dX12_gets_124
          · skip
            have f69 : 0 ≤ z25.toInt := b_nlt rfl (by decide) c32
            exfalso; (first | exact om_54ab17f89714 f31 f69 | omega)
        · skip
          have f70 : 0 ≤ z25.toInt := b_nlt rfl (by decide) c30
          refine lv_aload_n hx hb dX12_gets_86 rfl (lv_at hl 3 rfl) ?_
          refine va_get (D := D) (ci := 12) (v := .ref (ad 63)) (C := RX12) (T := TX12) (N := 100) hx hb hg inX12 hown hK hP 0 rfl rfl 63 (by decide) (hg _ w1769) (fun _ h9 => h9) rfl dX12_gets_87 ?_
          refine lv_iload hx hb dX12_gets_90 (lv_at hl 0 rfl) ?_
          refine va_iald (D := D) (i := z25) hx hb hK hP 48 47 rfl rfl (i_in (a := z25.toInt) rfl (by (first | exact om_1ef2a0549dee rgz25.2 f70 | omega))) dX12_gets_92 ?_
          have r71 : 0 ≤ ((V 63 (Int32.toNatClampNeg z25))).toInt ∧ ((V 63 (Int32.toNatClampNeg z25))).toInt ≤ 2 := hMV 63 (Int32.toNatClampNeg z25)
          refine lv_if_ne (tgt := 103) hx hb dX12_gets_93 (by decide) (fun c72 => ?_) (fun c72 => ?_)
          · skip
            have f73 : ((V 63 (Int32.toNatClampNeg z25))).toInt ≠ 0 := b_neq rfl (by decide) c72
            refine lv_iload hx hb dX12_gets_103 (lv_at hl 0 rfl) ?_
            refine lv_if_lt (tgt := 116) hx hb dX12_gets_105 (by decide) (fun c74 => ?_) (fun c74 => ?_)
            · skip
              have f75 : z25.toInt < 0 := b_lt rfl (by decide) c74
              exfalso; (first | exact om_1b10ca75f5f0 f70 f75 | omega)
            · skip
              have f76 : 0 ≤ z25.toInt := b_nlt rfl (by decide) c74
              have ob9 := prs_b _ _ (show prs (mV V gs gt gu) z9.toInt gc (V 0 60).toInt.toNat = ((Int32.toNatClampNeg z25 : Nat) : Int) from by have h9 := i_clamp (x := z25) rfl (by (first | exact om_eafa9039069c f70 | omega)); rw [← ox9]; omega)
              have ob1 : (V 61 (Int32.toNatClampNeg z25)).toInt = gc := ob9.2.1
              have ob3 : (V 63 (Int32.toNatClampNeg z25)).toInt < 2 := ob9.2.2.2
              have ob4 : 0 ≤ (V 63 (Int32.toNatClampNeg z25)).toInt := (hMV 63 _).1
              have ht77 : TRs gB (seekM gB (mV V gs gt gu) ga gr gc gsc glv) (mV V 1 gt gu, (nI (Int32.toNatClampNeg z25)), gr) := by rw [sk_a pl9 (by omega) ns9 (by omega) (show prs (mV V gs gt gu) z9.toInt gc (V 0 60).toInt.toNat = ((Int32.toNatClampNeg z25 : Nat) : Int) from by have h9 := i_clamp (x := z25) rfl (by (first | exact om_eafa9039069c f70 | omega)); rw [← ox9]; omega) (show (V 63 _).toInt = 1 from by omega), mV_ans]; exact TRs.rf
              refine lv_aload_n hx hb dX12_gets_108 rfl (lv_at hl 3 rfl) ?_
              refine lv_iload hx hb dX12_gets_109 (lv_at hl 0 rfl) ?_
              refine va_put (D := D) (ci := 12) (v := .int z25) (ty := tyX12 92) (C := RX12) (T := TX12) (N := 100) hx hb hg inX12 tyX12 tyX12_ok nmX12 hown hK hP hD hS 0 rfl rfl 92 (by decide) (hg _ w1798) (fun _ h9 => h9) rfl (tyX12_ok 92 (by decide)) rfl rfl (Nat.le_of_ble_eq_true rfl) dX12_gets_111 (fun H locs hP hD hS => ?_)
              obtain ⟨V78, hV78⟩ : ∃ z, z = up2 V 0 92 z25 := ⟨_, rfl⟩
              have hP : va_P D vwCl (mw ad kk ks.1 V78 L) H := by rw [hV78]; exact hP
              have hD : va_D A (mw ad kk ks.1 V78 L) := by rw [hV78]; exact hD
              have hMV78 : rgd bM V78 := hMV.put hV78 (i_full _)
              have agV78 : agr [(0, 60), (0, 65), (0, 68), (0, 69), (0, 73), (0, 76), (0, 90), (0, 91), (0, 92), (0, 93), (0, 95), (0, 96), (0, 98)] [59, 61, 62, 63, 64, 66, 67, 74, 75, 77, 78, 79, 80, 94, 97] V V78 := agV.up hV78 rfl
              refine lv_iconst (v := 0) hx hb dX12_gets_114 (by decide) ?_
              have pq79 : (V78 0 93).toInt = ((V 0 93)).toInt := congrArg Int32.toInt (up2_k hV78 (by decide))
              have pq80 : (V78 0 98).toInt = ((V 0 98)).toInt := congrArg Int32.toInt (up2_k hV78 (by decide))
              have pq81 : (V78 0 60).toInt = ((V 0 60)).toInt := congrArg Int32.toInt (up2_k hV78 (by decide))
              have pq82 : (V78 0 65).toInt = ((V 0 65)).toInt := congrArg Int32.toInt (up2_k hV78 (by decide))
              have pq83 : (V78 0 73).toInt = ((V 0 73)).toInt := congrArg Int32.toInt (up2_k hV78 (by decide))
              have pq84 : (V78 0 95).toInt = ((V 0 95)).toInt := congrArg Int32.toInt (up2_k hV78 (by decide))
              have pq85 : (V78 0 69).toInt = ((V 0 69)).toInt := congrArg Int32.toInt (up2_k hV78 (by decide))
              have pq86 : (V78 0 76).toInt = ((V 0 76)).toInt := congrArg Int32.toInt (up2_k hV78 (by decide))
              have pq87 : (V78 0 92).toInt = z25.toInt := congrArg Int32.toInt (up2_s hV78)
              have rp88 : Imp (Int32.toInt 0 = 0) ((V78 61 (Int32.toNatClampNeg (V78 0 92))).toInt = p0.toInt ∧ 1 ≤ (V78 63 (Int32.toNatClampNeg (V78 0 92))).toInt) := Imp.mk (fun _ => by rw [(up2_s hV78), (show agr [(0, 92)] [] V V78 from (agr.up agr.rf hV78 rfl)) 61 _ rfl, (show agr [(0, 92)] [] V V78 from (agr.up agr.rf hV78 rfl)) 63 _ rfl]; exact ⟨by omega, by omega⟩)
              have rt89 : RT V78 := RT.ag rt hMV (show agr [(0, 92)] [] V V78 from (agr.up agr.rf hV78 rfl)) ⟨⟨rfl, fun _ => rfl, fun _ => rfl, fun _ => rfl, fun _ => rfl, fun _ => rfl, fun _ => rfl⟩, by decide, by decide, rfl, rfl, fun _ => rfl, fun _ => rfl, fun _ => rfl, fun _ => rfl, fun _ => rfl, fun _ => rfl⟩ (c0k.ag (show agr [(0, 92)] [] V V78 from (agr.up agr.rf hV78 rfl)) rfl)
              have fm90 : FRM V V78 (-1) := ((FRM.ag (show agr [(0, 92)] [] V V78 from (agr.up agr.rf hV78 rfl)) ⟨⟨rfl, fun _ => rfl, fun _ => rfl, fun _ => rfl, fun _ => rfl, fun _ => rfl, fun _ => rfl⟩, by decide, by decide, rfl, rfl, fun _ => rfl, fun _ => rfl, fun _ => rfl, fun _ => rfl, fun _ => rfl, fun _ => rfl⟩) : FRM V V78 (-1))
              have rj91 : RJm V78 gB := RJm.ag rj (show agr [(0, 92)] [] V V78 from (agr.up agr.rf hV78 rfl)) (by decide)
              have pk92 : PLK V V78 (V 0 98).toInt.toNat := (PLK.tr (PLK.rf : PLK V V (V 0 98).toInt.toNat) (PLK.ag (t := (V 0 98).toInt.toNat) (show agr [(0, 92)] [] V V78 from (agr.up agr.rf hV78 rfl)) (fun _ => rfl)) (Nat.le_refl _))
              have ht93 : TRs gB (seekM gB (mV V gs gt gu) ga gr gc gsc glv) (mV V78 1 gt gu, (nI (Int32.toNatClampNeg z25)), gr) := by rw [mV_ag (show agr [(0, 92)] [] V V78 from (agr.up agr.rf hV78 rfl)) (by decide)]; exact ht77
              have rp94 : DPc gB (seekM gB (mV V gs gt gu) ga gr gc gsc glv) V78 gr (0) (V78 0 92) (24 * (10 - (V 0 93).toInt) + ((grk gc.toNat : Nat) : Int)) := DPc.m0 (show TRs gB (seekM gB (mV V gs gt gu) ga gr gc gsc glv) (mV V78 1 gt gu, (V78 0 92), gr) from by have h9 := ht93; rw [show (nI (Int32.toNatClampNeg z25)) = (V78 0 92) from (nI_cl (by omega)).trans ((up2_s hV78)).symm] at h9; exact h9) (by decide)
              exact W.iret (v := 0) hx hb hr (fun t ht hW => ⟨⟨0, (V78, L), rfl, ⟨hMV78, agV78, rfl, (by decide), (show (V78 0 93).toInt = (V 0 93).toInt from by (first | exact om_570b691c1130 pq79 | omega)), (show (V78 0 98).toInt = (V 0 98).toInt from by (first | exact om_570b691c1130 pq80 | omega)), (show (V 0 60).toInt ≤ (V78 0 60).toInt from by (first | exact om_abdc88b0c8fc pq81 | omega)), (show (V 0 65).toInt ≤ (V78 0 65).toInt from by (first | exact om_abdc88b0c8fc pq82 | omega)), (show (V78 0 65).toInt - (V 0 65).toInt ≤ (V78 0 60).toInt - (V 0 60).toInt from by (first | exact om_3cbf875a340a pq81 pq82 | omega)), (show (V78 0 73).toInt + (V78 0 95).toInt - (V78 0 65).toInt ≤ (V 0 73).toInt + (V 0 95).toInt - (V 0 65).toInt from by (first | exact om_bff6d9a49583 pq82 pq83 pq84 | omega)), (show (V 0 73).toInt ≤ (V78 0 73).toInt from by (first | exact om_abdc88b0c8fc pq83 | omega)), (show (V 0 69).toInt ≤ (V78 0 69).toInt from by (first | exact om_abdc88b0c8fc pq85 | omega)), (show (V 0 95).toInt ≤ (V78 0 95).toInt from by (first | exact om_abdc88b0c8fc pq84 | omega)), (show (V78 0 95).toInt - (V 0 95).toInt ≤ (V78 0 65).toInt - (V 0 65).toInt from by (first | exact om_3cbf875a340a pq82 pq84 | omega)), (show (V78 0 76).toInt - (V78 0 69).toInt - (V78 0 73).toInt ≤ (V 0 76).toInt - (V 0 69).toInt - (V 0 73).toInt from by (first | exact om_fc0a03057b6c pq83 pq85 pq86 | omega)), (Imp.mk (fun _ => (show 0 ≤ (V78 0 92).toInt ∧ (V78 0 92).toInt < (V78 0 60).toInt from by (first | exact om_b0c18798cd6b t28 f70 pq81 pq87 | omega)))), rp88, rt89, fm90, rj91, pk92, rp94⟩, by rw [ht]; exact hP, va_K.moved hW.alike hK, hD⟩, hS.F ht⟩) hS.2.2 dX12_gets_115
          · skip
            have f95 : ((V 63 (Int32.toNatClampNeg z25))).toInt = 0 := b_eq rfl (by decide) c72
            have ht96 : TRs gB (seekM gB (mV V gs gt gu) ga gr gc gsc glv) (mV V 2 0 12, ga, gr) := by rw [sk_u pl9 (by omega) ns9 (by omega) (show prs (mV V gs gt gu) z9.toInt gc (V 0 60).toInt.toNat = ((Int32.toNatClampNeg z25 : Nat) : Int) from by have h9 := i_clamp (x := z25) rfl (by (first | exact om_eafa9039069c f70 | omega)); rw [← ox9]; omega) (show ¬ (V 63 _).toInt = 1 from by omega), mV_fail]; exact TRs.rf
            refine lv_aload_n hx hb dX12_gets_96 rfl (lv_at hl 3 rfl) ?_
            refine lv_bipush (v := 12) hx hb dX12_gets_97 (by decide) ?_
            have r97 : Int32.toInt 12 = 12 := by decide
            refine gA_int (gA_runV (As := [.int 12]) (rest := []) (ci := 12) (q0 := 0) hx hb hml hown hg hP hD hK hS hA hnw hgk (s_fails3 l D ks H.size ad kk V L 12 hMV ) w2247 w2249 w131 w172 w2250 rfl rfl hdV_yX12_fails ⟨(by show (0) + 1 ≤ (4 * d1 + 40 * d2 + 15); (first | exact om_6a44aa5f39d7 n6 r7.2 | omega)), (by show 8 + (2 + 11) + (0) ≤ (100 * d1 + 1000 * d2 + 590); (first | exact om_a9f57f50f2a3 n6 r7.2 | omega))⟩ rfl hl.1 rfl (Nat.le_of_ble_eq_true rfl) dX12_gets_99 ⟨Nat.le_of_ble_eq_true rfl, Nat.le_of_ble_eq_true rfl⟩) hP hD hK hS hA (fun z98 u99 H locs w100 hP hD hK hS => ?_)
            obtain ⟨V103, L104⟩ := u99
            obtain ⟨hMV103, ajV103, axL104, rgz98, t101, t102⟩ := w100
            have axL104 : L = L104 := Eq.symm axL104
            subst axL104
            have hP : va_P D vwCl (mw ad kk ks.1 V103 L) H := hP
            have hD : va_D A (mw ad kk ks.1 V103 L) := hD
            have hMV103 : rgd bM V103 := hMV103
            have ajV103 : agr [(0, 90), (0, 91)] [] V V103 := ajV103
            have agV103 : agr [(0, 60), (0, 65), (0, 68), (0, 69), (0, 73), (0, 76), (0, 90), (0, 91), (0, 92), (0, 93), (0, 95), (0, 96), (0, 98)] [59, 61, 62, 63, 64, 66, 67, 74, 75, 77, 78, 79, 80, 94, 97] V V103 := agV.tr ajV103 (by decide) (by decide)
            have rgz98 : 1 ≤ z98.toInt ∧ z98.toInt ≤ 1 := rgz98
            have t101 : (V103 0 90).toInt = 0 := t101
            have t102 : (V103 0 91).toInt = (Int32.toInt 12) := t102
            have pq105 : (V103 0 93).toInt = ((V 0 93)).toInt := congrArg Int32.toInt (ajV103 0 93 rfl)
            have pq106 : (V103 0 98).toInt = ((V 0 98)).toInt := congrArg Int32.toInt (ajV103 0 98 rfl)
            have pq107 : (V103 0 60).toInt = ((V 0 60)).toInt := congrArg Int32.toInt (ajV103 0 60 rfl)
            have pq108 : (V103 0 65).toInt = ((V 0 65)).toInt := congrArg Int32.toInt (ajV103 0 65 rfl)
            have pq109 : (V103 0 73).toInt = ((V 0 73)).toInt := congrArg Int32.toInt (ajV103 0 73 rfl)
            have pq110 : (V103 0 95).toInt = ((V 0 95)).toInt := congrArg Int32.toInt (ajV103 0 95 rfl)
            have pq111 : (V103 0 69).toInt = ((V 0 69)).toInt := congrArg Int32.toInt (ajV103 0 69 rfl)
            have pq112 : (V103 0 76).toInt = ((V 0 76)).toInt := congrArg Int32.toInt (ajV103 0 76 rfl)
            have pq113 : (V103 0 92).toInt = ((V 0 92)).toInt := congrArg Int32.toInt (ajV103 0 92 rfl)
            have rt114 : RT V103 := RT.ag rt hMV (show agr [(0, 90), (0, 91)] [] V V103 from (agr.tr agr.rf ajV103 (by decide) (by decide))) ⟨⟨rfl, fun _ => rfl, fun _ => rfl, fun _ => rfl, fun _ => rfl, fun _ => rfl, fun _ => rfl⟩, by decide, by decide, rfl, rfl, fun _ => rfl, fun _ => rfl, fun _ => rfl, fun _ => rfl, fun _ => rfl, fun _ => rfl⟩ (c0k.ag (show agr [(0, 90), (0, 91)] [] V V103 from (agr.tr agr.rf ajV103 (by decide) (by decide))) rfl)
            have fm115 : FRM V V103 (-1) := ((FRM.ag (show agr [(0, 90), (0, 91)] [] V V103 from (agr.tr agr.rf ajV103 (by decide) (by decide))) ⟨⟨rfl, fun _ => rfl, fun _ => rfl, fun _ => rfl, fun _ => rfl, fun _ => rfl, fun _ => rfl⟩, by decide, by decide, rfl, rfl, fun _ => rfl, fun _ => rfl, fun _ => rfl, fun _ => rfl, fun _ => rfl, fun _ => rfl⟩) : FRM V V103 (-1))
            have rj116 : RJm V103 gB := RJm.ag rj (show agr [(0, 90), (0, 91)] [] V V103 from (agr.tr agr.rf ajV103 (by decide) (by decide))) (by decide)
            have pk117 : PLK V V103 (V 0 98).toInt.toNat := (PLK.tr (PLK.rf : PLK V V (V 0 98).toInt.toNat) (PLK.ag (t := (V 0 98).toInt.toNat) (show agr [(0, 90), (0, 91)] [] V V103 from (agr.tr agr.rf ajV103 (by decide) (by decide))) (fun _ => rfl)) (Nat.le_refl _))
            have ht118 : TRs gB (seekM gB (mV V gs gt gu) ga gr gc gsc glv) (mV V103 2 0 12, ga, gr) := by rw [mV_ag (show agr [(0, 90), (0, 91)] [] V V103 from (agr.tr agr.rf ajV103 (by decide) (by decide))) (by decide)]; exact ht96
            have rp119 : DPc gB (seekM gB (mV V gs gt gu) ga gr gc gsc glv) V103 gr (z98.toInt) (V103 0 92) (24 * (10 - (V 0 93).toInt) + ((grk gc.toNat : Nat) : Int)) := DPc.m1 ht118 (by (first | exact om_14b36ee974dd rgz98.1 rgz98.2 | omega)) (by (first | exact om_e43208099ff7 t101 | omega)) (by (first | exact om_18e392619206 r97 t102 | omega)) (by omega) (by (first | exact om_b88ff5295f31 r7.2 | omega))
            exact W.iret (v := z98) hx hb hr (fun t ht hW => ⟨⟨z98, (V103, L), rfl, ⟨hMV103, agV103, rfl, (show 0 ≤ z98.toInt ∧ z98.toInt ≤ 2 from by (first | exact om_4a983af70113 rgz98.1 rgz98.2 | omega)), (show (V103 0 93).toInt = (V 0 93).toInt from by (first | exact om_570b691c1130 pq105 | omega)), (show (V103 0 98).toInt = (V 0 98).toInt from by (first | exact om_570b691c1130 pq106 | omega)), (show (V 0 60).toInt ≤ (V103 0 60).toInt from by (first | exact om_abdc88b0c8fc pq107 | omega)), (show (V 0 65).toInt ≤ (V103 0 65).toInt from by (first | exact om_abdc88b0c8fc pq108 | omega)), (show (V103 0 65).toInt - (V 0 65).toInt ≤ (V103 0 60).toInt - (V 0 60).toInt from by (first | exact om_3cbf875a340a pq107 pq108 | omega)), (show (V103 0 73).toInt + (V103 0 95).toInt - (V103 0 65).toInt ≤ (V 0 73).toInt + (V 0 95).toInt - (V 0 65).toInt from by (first | exact om_bff6d9a49583 pq108 pq109 pq110 | omega)), (show (V 0 73).toInt ≤ (V103 0 73).toInt from by (first | exact om_abdc88b0c8fc pq109 | omega)), (show (V 0 69).toInt ≤ (V103 0 69).toInt from by (first | exact om_abdc88b0c8fc pq111 | omega)), (show (V 0 95).toInt ≤ (V103 0 95).toInt from by (first | exact om_abdc88b0c8fc pq110 | omega)), (show (V103 0 95).toInt - (V 0 95).toInt ≤ (V103 0 65).toInt - (V 0 65).toInt from by (first | exact om_3cbf875a340a pq108 pq110 | omega)), (show (V103 0 76).toInt - (V103 0 69).toInt - (V103 0 73).toInt ≤ (V 0 76).toInt - (V 0 69).toInt - (V 0 73).toInt from by (first | exact om_fc0a03057b6c pq109 pq111 pq112 | omega)), (Imp.mk (fun hp => have hp : z98.toInt = 0 := hp; (show 0 ≤ (V103 0 92).toInt ∧ (V103 0 92).toInt < (V103 0 60).toInt from by omega))), (Imp.mk (fun h9 => by exfalso; omega)), rt114, fm115, rj116, pk117, rp119⟩, by rw [ht]; exact hP, va_K.moved hW.alike hK, hD⟩, hS.F ht⟩) hS.2.2 dX12_gets_102
      · skip
        have f120 : ((V 59 (Int32.toNatClampNeg z21))).toInt ≠ 0 := b_neq rfl (by decide) c23
        have ht121 : TRs gB (seekM gB (mV V gs gt gu) ga gr gc gsc glv) (mV V 2 0 15, ga, gr) := by rw [sk_s pl9 (by omega) (show (V 59 _).toInt ≠ 0 from by rw [← kz9]; omega), mV_fail]; exact TRs.rf
        refine lv_aload_n hx hb dX12_gets_57 rfl (lv_at hl 2 rfl) ?_
        refine lv_bipush (v := 15) hx hb dX12_gets_58 (by decide) ?_
        have r122 : Int32.toInt 15 = 15 := by decide
        refine gA_int (gA_runV (As := [.int 15]) (rest := []) (ci := 12) (q0 := 0) hx hb hml hown hg hP hD hK hS hA hnw hgk (s_fails3 l D ks H.size ad kk V L 15 hMV ) w2247 w2249 w131 w172 w2250 rfl rfl hdV_yX12_fails ⟨(by show (0) + 1 ≤ (4 * d1 + 40 * d2 + 15); (first | exact om_6a44aa5f39d7 n6 r7.2 | omega)), (by show 8 + (2 + 11) + (0) ≤ (100 * d1 + 1000 * d2 + 590); (first | exact om_a9f57f50f2a3 n6 r7.2 | omega))⟩ rfl hl.1 rfl (Nat.le_of_ble_eq_true rfl) dX12_gets_60 ⟨Nat.le_of_ble_eq_true rfl, Nat.le_of_ble_eq_true rfl⟩) hP hD hK hS hA (fun z123 u124 H locs w125 hP hD hK hS => ?_)
        obtain ⟨V128, L129⟩ := u124
        obtain ⟨hMV128, ajV128, axL129, rgz123, t126, t127⟩ := w125
        have axL129 : L = L129 := Eq.symm axL129
        subst axL129
        have hP : va_P D vwCl (mw ad kk ks.1 V128 L) H := hP
        have hD : va_D A (mw ad kk ks.1 V128 L) := hD
        have hMV128 : rgd bM V128 := hMV128
        have ajV128 : agr [(0, 90), (0, 91)] [] V V128 := ajV128
        have agV128 : agr [(0, 60), (0, 65), (0, 68), (0, 69), (0, 73), (0, 76), (0, 90), (0, 91), (0, 92), (0, 93), (0, 95), (0, 96), (0, 98)] [59, 61, 62, 63, 64, 66, 67, 74, 75, 77, 78, 79, 80, 94, 97] V V128 := agV.tr ajV128 (by decide) (by decide)
        have rgz123 : 1 ≤ z123.toInt ∧ z123.toInt ≤ 1 := rgz123
        have t126 : (V128 0 90).toInt = 0 := t126
        have t127 : (V128 0 91).toInt = (Int32.toInt 15) := t127
        have pq130 : (V128 0 93).toInt = ((V 0 93)).toInt := congrArg Int32.toInt (ajV128 0 93 rfl)
        have pq131 : (V128 0 98).toInt = ((V 0 98)).toInt := congrArg Int32.toInt (ajV128 0 98 rfl)
        have pq132 : (V128 0 60).toInt = ((V 0 60)).toInt := congrArg Int32.toInt (ajV128 0 60 rfl)
        have pq133 : (V128 0 65).toInt = ((V 0 65)).toInt := congrArg Int32.toInt (ajV128 0 65 rfl)
        have pq134 : (V128 0 73).toInt = ((V 0 73)).toInt := congrArg Int32.toInt (ajV128 0 73 rfl)
        have pq135 : (V128 0 95).toInt = ((V 0 95)).toInt := congrArg Int32.toInt (ajV128 0 95 rfl)
        have pq136 : (V128 0 69).toInt = ((V 0 69)).toInt := congrArg Int32.toInt (ajV128 0 69 rfl)
        have pq137 : (V128 0 76).toInt = ((V 0 76)).toInt := congrArg Int32.toInt (ajV128 0 76 rfl)
        have pq138 : (V128 0 92).toInt = ((V 0 92)).toInt := congrArg Int32.toInt (ajV128 0 92 rfl)
        have rt139 : RT V128 := RT.ag rt hMV (show agr [(0, 90), (0, 91)] [] V V128 from (agr.tr agr.rf ajV128 (by decide) (by decide))) ⟨⟨rfl, fun _ => rfl, fun _ => rfl, fun _ => rfl, fun _ => rfl, fun _ => rfl, fun _ => rfl⟩, by decide, by decide, rfl, rfl, fun _ => rfl, fun _ => rfl, fun _ => rfl, fun _ => rfl, fun _ => rfl, fun _ => rfl⟩ (c0k.ag (show agr [(0, 90), (0, 91)] [] V V128 from (agr.tr agr.rf ajV128 (by decide) (by decide))) rfl)
        have fm140 : FRM V V128 (-1) := ((FRM.ag (show agr [(0, 90), (0, 91)] [] V V128 from (agr.tr agr.rf ajV128 (by decide) (by decide))) ⟨⟨rfl, fun _ => rfl, fun _ => rfl, fun _ => rfl, fun _ => rfl, fun _ => rfl, fun _ => rfl⟩, by decide, by decide, rfl, rfl, fun _ => rfl, fun _ => rfl, fun _ => rfl, fun _ => rfl, fun _ => rfl, fun _ => rfl⟩) : FRM V V128 (-1))
        have rj141 : RJm V128 gB := RJm.ag rj (show agr [(0, 90), (0, 91)] [] V V128 from (agr.tr agr.rf ajV128 (by decide) (by decide))) (by decide)
        have pk142 : PLK V V128 (V 0 98).toInt.toNat := (PLK.tr (PLK.rf : PLK V V (V 0 98).toInt.toNat) (PLK.ag (t := (V 0 98).toInt.toNat) (show agr [(0, 90), (0, 91)] [] V V128 from (agr.tr agr.rf ajV128 (by decide) (by decide))) (fun _ => rfl)) (Nat.le_refl _))
        have ht143 : TRs gB (seekM gB (mV V gs gt gu) ga gr gc gsc glv) (mV V128 2 0 15, ga, gr) := by rw [mV_ag (show agr [(0, 90), (0, 91)] [] V V128 from (agr.tr agr.rf ajV128 (by decide) (by decide))) (by decide)]; exact ht121
        have rp144 : DPc gB (seekM gB (mV V gs gt gu) ga gr gc gsc glv) V128 gr (z123.toInt) (V128 0 92) (24 * (10 - (V 0 93).toInt) + ((grk gc.toNat : Nat) : Int)) := DPc.m1 ht143 (by (first | exact om_14b36ee974dd rgz123.1 rgz123.2 | omega)) (by (first | exact om_e43208099ff7 t126 | omega)) (by (first | exact om_92fb8cd53297 r122 t127 | omega)) (by omega) (by (first | exact om_b88ff5295f31 r7.2 | omega))
        exact W.iret (v := z123) hx hb hr (fun t ht hW => ⟨⟨z123, (V128, L), rfl, ⟨hMV128, agV128, rfl, (show 0 ≤ z123.toInt ∧ z123.toInt ≤ 2 from by (first | exact om_4a983af70113 rgz123.1 rgz123.2 | omega)), (show (V128 0 93).toInt = (V 0 93).toInt from by (first | exact om_570b691c1130 pq130 | omega)), (show (V128 0 98).toInt = (V 0 98).toInt from by (first | exact om_570b691c1130 pq131 | omega)), (show (V 0 60).toInt ≤ (V128 0 60).toInt from by (first | exact om_abdc88b0c8fc pq132 | omega)), (show (V 0 65).toInt ≤ (V128 0 65).toInt from by (first | exact om_abdc88b0c8fc pq133 | omega)), (show (V128 0 65).toInt - (V 0 65).toInt ≤ (V128 0 60).toInt - (V 0 60).toInt from by (first | exact om_3cbf875a340a pq132 pq133 | omega)), (show (V128 0 73).toInt + (V128 0 95).toInt - (V128 0 65).toInt ≤ (V 0 73).toInt + (V 0 95).toInt - (V 0 65).toInt from by (first | exact om_bff6d9a49583 pq133 pq134 pq135 | omega)), (show (V 0 73).toInt ≤ (V128 0 73).toInt from by (first | exact om_abdc88b0c8fc pq134 | omega)), (show (V 0 69).toInt ≤ (V128 0 69).toInt from by (first | exact om_abdc88b0c8fc pq136 | omega)), (show (V 0 95).toInt ≤ (V128 0 95).toInt from by (first | exact om_abdc88b0c8fc pq135 | omega)), (show (V128 0 95).toInt - (V 0 95).toInt ≤ (V128 0 65).toInt - (V 0 65).toInt from by (first | exact om_3cbf875a340a pq133 pq135 | omega)), (show (V128 0 76).toInt - (V128 0 69).toInt - (V128 0 73).toInt ≤ (V 0 76).toInt - (V 0 69).toInt - (V 0 73).toInt from by (first | exact om_fc0a03057b6c pq134 pq136 pq137 | omega)), (Imp.mk (fun hp => have hp : z123.toInt = 0 := hp; (show 0 ≤ (V128 0 92).toInt ∧ (V128 0 92).toInt < (V128 0 60).toInt from by omega))), (Imp.mk (fun h9 => by exfalso; omega)), rt139, fm140, rj141, pk142, rp144⟩, by rw [ht]; exact hP, va_K.moved hW.alike hK, hD⟩, hS.F ht⟩) hS.2.2 dX12_gets_63
    · skip
      have f145 : ((V 22 (Int32.toNatClampNeg z17))).toInt = 3 := b_eq rfl (by decide) c18
      refine lv_iconst (v := 1) hx hb dX12_gets_36 (by decide) ?_
      refine lv_goto (tgt := 41) hx hb dX12_gets_37 (by decide) ?_
      refine lv_istore (lv' := [(4, .int 1), (3, .int z9), (0, .ref (ad 0)), (1, .int p0), (2, .int p1)]) hx hb dX12_gets_41 hl (by decide) rfl (fun ls hl => ?_)
      refine lv_aload_n hx hb dX12_gets_43 rfl (lv_at hl 2 rfl) ?_
      refine va_get (D := D) (ci := 12) (v := .ref (ad 59)) (C := RX12) (T := TX12) (N := 100) hx hb hg inX12 hown hK hP 0 rfl rfl 59 (by decide) (hg _ w1765) (fun _ h9 => h9) rfl dX12_gets_44 ?_
      refine lv_bipush (v := 24) hx hb dX12_gets_47 (by decide) ?_
      refine lv_iload_n hx hb dX12_gets_49 rfl (lv_at hl 1 rfl) ?_
      refine lv_imul hx hb dX12_gets_50 ?_
      refine lv_topi (fun z146 ez146 => ?_)
      have hz146 : z146.toInt = 24 * z9.toInt := i_mul ez146 (by decide) rfl (by (first | exact om_3b98457e2d8a rgz9.2 f14 | omega))
      refine lv_iload_n hx hb dX12_gets_51 rfl (lv_at hl 3 rfl) ?_
      refine lv_iadd hx hb dX12_gets_52 ?_
      refine lv_topi (fun z147 ez147 => ?_)
      have hz147 : z147.toInt = z146.toInt + p0.toInt := i_add ez147 rfl rfl (by (first | exact om_f1d4697d758d rg_p0.1 rg_p0.2 rgz9.2 f14 hz146 | omega))
      have kz9 : Int32.toNatClampNeg z147 = 24 * z9.toInt.toNat + gc.toNat := by have h9 := i_clamp (x := z147) rfl (by (first | exact om_11587583f9f8 rg_p0.1 f14 hz146 hz147 | omega)); rw [gc9]; omega
      refine va_zald (D := D) (i := z147) hx hb hK hP 45 44 rfl rfl (i_in (a := z147.toInt) rfl (by (first | exact om_b108857776dc rg_p0.1 rg_p0.2 rgz9.2 f14 hz146 hz147 | omega))) dX12_gets_53 ?_
      have r148 : 0 ≤ ((V 59 (Int32.toNatClampNeg z147))).toInt ∧ ((V 59 (Int32.toNatClampNeg z147))).toInt ≤ 1 := hMV 59 (Int32.toNatClampNeg z147)
      refine lv_if_eq (tgt := 64) hx hb dX12_gets_54 (by decide) (fun c149 => ?_) (fun c149 => ?_)
      · skip
        have f150 : ((V 59 (Int32.toNatClampNeg z147))).toInt = 0 := b_eq rfl (by decide) c149
        have ns9 : ¬ mV V gs gt gu 8 (24 * z9.toInt.toNat + gc.toNat) ≠ 0 := fun h9 => h9 (show (V 59 _).toInt = 0 from by rw [← kz9]; omega)
        refine lv_iload hx hb dX12_gets_64 (lv_at hl 0 rfl) ?_
        refine lv_if_eq (tgt := 73) hx hb dX12_gets_66 (by decide) (fun q => absurd q (by decide)) (fun _ => ?_)
        refine lv_iconst (v := (-1)) hx hb dX12_gets_69 (by decide) ?_
        refine lv_goto (tgt := 79) hx hb dX12_gets_70 (by decide) ?_
        refine lv_istore (lv' := [(5, .int (-1)), (4, .int 1), (3, .int z9), (0, .ref (ad 0)), (1, .int p0), (2, .int p1)]) hx hb dX12_gets_79 hl (by decide) rfl (fun ls hl => ?_)
        refine lv_iload hx hb dX12_gets_81 (lv_at hl 0 rfl) ?_
        refine lv_if_lt (tgt := 103) hx hb dX12_gets_83 (by decide) (fun _ => ?_) (fun q => absurd (by decide) q)
        refine lv_iload hx hb dX12_gets_103 (lv_at hl 0 rfl) ?_
        refine lv_if_lt (tgt := 116) hx hb dX12_gets_105 (by decide) (fun _ => ?_) (fun q => absurd (by decide) q)
        refine lv_aload_n hx hb dX12_gets_116 rfl (lv_at hl 3 rfl) ?_
        refine lv_iload_n hx hb dX12_gets_117 rfl (lv_at hl 4 rfl) ?_
        refine lv_iload_n hx hb dX12_gets_118 rfl (lv_at hl 2 rfl) ?_
        refine lv_iload hx hb dX12_gets_119 (lv_at hl 1 rfl) ?_
        have r151 : Int32.toInt 1 = 1 := by decide
        refine gA_int (gA_runV (As := [.int p0, .int z9, .int 1]) (rest := []) (ci := 12) (q0 := 0) hx hb hml hown hg hP hD hK hS hA hnw hgk (hk_s_makesD H.size ad kk V L p0 z9 1 (gB) (grk) (gr) (ga) (gs) (gt) (gu) (glv) (go) (gc) ((z9.toInt)) (gme) hMV (by (first | exact om_d3435e1acec6 rg_p0.1 rg_p0.2 | omega)) (by (first | exact om_8588804ef24d rgz9.2 f14 | omega)) (by decide) rt (show (V 0 65).toInt ≤ (V 0 60).toInt from by (first | exact om_f4906d00fa52 n1 | omega)) (show (V 0 95).toInt ≤ (V 0 65).toInt from by (first | exact om_f4906d00fa52 n2 | omega)) (show (V 0 73).toInt + (V 0 95).toInt - (V 0 65).toInt ≤ 999000 from by (first | exact om_947a8f2a0e3a n3 | omega)) (show (V 0 76).toInt - (V 0 69).toInt - (V 0 73).toInt ≤ 1000000000 from by (first | exact om_be9b7bdfab02 n4 | omega)) (show 300 - (V 0 60).toInt ≤ ((d1 : Nat) : Int) from by (first | exact om_a00d5de16f2e n5 | omega)) (show 10 - (V 0 93).toInt ≤ ((d2 : Nat) : Int) from by (first | exact om_e2c7f9016405 n6 | omega)) bk br rj hs9 (show (((gr).length : Nat) : Int) ≤ 28 * (V 0 93).toInt + 24 - (((grk) (gc).toNat : Nat) : Int) from by (first | exact om_bba00cc93c07 hl9 | omega)) (show ((totP (gr) : Nat) : Int) ≤ 84 * (V 0 93).toInt from by (first | exact om_258a92502e67 hp9 | omega)) (show (V 0 98).toInt + 400 * ((d2 : Nat) : Int) + 30 ≤ 19000 from by (first | exact om_dbdb2869bf85 n7 | omega)) tq (show (V 0 93).toInt = (glv) from by (first | exact om_570b691c1130 zl9 | omega)) (show p0.toInt = (gc) from by (first | exact om_570b691c1130 zc9 | omega)) (show z9.toInt = ((z9.toInt)) from by (first | exact om_4c2c879c4424 | omega)) ⟨fun h9 => by first | omega | exact absurd h9 (by decide), fun h9 => by first | rfl | (exfalso; omega)⟩) w2255 w2257 w133 w172 w2258 rfl rfl hdV_yX12_makes ⟨(by show (4 * (d1) + 40 * (d2) + 14) + 1 ≤ (4 * d1 + 40 * d2 + 15); (first | exact om_a14fe9afdc0a | omega)), (by show 8 + (6 + 11) + (100 * (d1) + 1000 * (d2) + 560) ≤ (100 * d1 + 1000 * d2 + 590); (first | exact om_0fc53bc74133 | omega))⟩ rfl hl.1 rfl (Nat.le_of_ble_eq_true rfl) dX12_gets_121 ⟨Nat.le_of_ble_eq_true rfl, Nat.le_of_ble_eq_true rfl⟩) hP hD hK hS hA (fun z152 u153 H locs w154 hP hD hK hS => ?_)
        obtain ⟨V173, L174⟩ := u153
        obtain ⟨hMV173, ajV173, axL174, rgz152, t155, t156, t157, t158, t159, t160, t161, t162, t163, t164, t165, t166, t167, t168, t169, t170, t171, t172⟩ := w154
        have axL174 : L = L174 := Eq.symm axL174
        subst axL174
        have hP : va_P D vwCl (mw ad kk ks.1 V173 L) H := hP
        have hD : va_D A (mw ad kk ks.1 V173 L) := hD
        have hMV173 : rgd bM V173 := hMV173
        have ajV173 : agr [(0, 60), (0, 65), (0, 68), (0, 69), (0, 73), (0, 76), (0, 90), (0, 91), (0, 92), (0, 93), (0, 95), (0, 96), (0, 98)] [59, 61, 62, 63, 64, 66, 67, 74, 75, 77, 78, 79, 80, 94, 97] V V173 := ajV173
        have agV173 : agr [(0, 60), (0, 65), (0, 68), (0, 69), (0, 73), (0, 76), (0, 90), (0, 91), (0, 92), (0, 93), (0, 95), (0, 96), (0, 98)] [59, 61, 62, 63, 64, 66, 67, 74, 75, 77, 78, 79, 80, 94, 97] V V173 := agV.tr ajV173 (by decide) (by decide)
        have rgz152 : 0 ≤ z152.toInt ∧ z152.toInt ≤ 2 := rgz152
        have t155 : (V173 0 93).toInt = (V 0 93).toInt := t155
        have t156 : (V173 0 98).toInt = (V 0 98).toInt := t156
        have t157 : (V 0 60).toInt ≤ (V173 0 60).toInt := t157
        have t158 : (V 0 65).toInt ≤ (V173 0 65).toInt := t158
        have t159 : (V173 0 65).toInt - (V 0 65).toInt ≤ (V173 0 60).toInt - (V 0 60).toInt := t159
        have t160 : (V173 0 73).toInt + (V173 0 95).toInt - (V173 0 65).toInt ≤ (V 0 73).toInt + (V 0 95).toInt - (V 0 65).toInt := t160
        have t161 : (V 0 73).toInt ≤ (V173 0 73).toInt := t161
        have t162 : (V 0 69).toInt ≤ (V173 0 69).toInt := t162
        have t163 : (V 0 95).toInt ≤ (V173 0 95).toInt := t163
        have t164 : (V173 0 95).toInt - (V 0 95).toInt ≤ (V173 0 65).toInt - (V 0 65).toInt := t164
        have t165 : (V173 0 76).toInt - (V173 0 69).toInt - (V173 0 73).toInt ≤ (V 0 76).toInt - (V 0 69).toInt - (V 0 73).toInt := t165
        have t166 : Imp (z152.toInt = 0) (0 ≤ (V173 0 92).toInt ∧ (V173 0 92).toInt < (V173 0 60).toInt) := t166
        have t167 : Imp (z152.toInt = 0) ((V173 61 (Int32.toNatClampNeg (V173 0 92))).toInt = p0.toInt ∧ 1 ≤ (V173 63 (Int32.toNatClampNeg (V173 0 92))).toInt) := t167
        have t168 : RT V173 := t168
        have t169 : FRM V V173 (-1) := t169
        have t170 : RJm V173 (gB) := t170
        have t171 : PLK V V173 (V 0 98).toInt.toNat := t171
        have t172 : DPc (gB) (makeM (mV V (gs) (gt) (gu)) (ga) (gr) (gc) ((z9.toInt)) (glv)) V173 (gr) z152.toInt (V173 0 92) (24 * (10 - (V 0 93).toInt) + (((grk) (gc).toNat : Nat) : Int)) := t172
        have r175 : 0 ≤ ((V173 0 93)).toInt ∧ ((V173 0 93)).toInt ≤ 10 := hMV173 0 93
        have r176 : 0 ≤ ((V173 0 98)).toInt ∧ ((V173 0 98)).toInt ≤ 20000 := hMV173 0 98
        have r177 : 0 ≤ ((V173 0 60)).toInt ∧ ((V173 0 60)).toInt ≤ 300 := hMV173 0 60
        have r178 : 0 ≤ ((V173 0 65)).toInt ∧ ((V173 0 65)).toInt ≤ 1000000 := hMV173 0 65
        have r179 : 0 ≤ ((V173 0 73)).toInt ∧ ((V173 0 73)).toInt ≤ 1000000 := hMV173 0 73
        have r180 : 0 ≤ ((V173 0 95)).toInt ∧ ((V173 0 95)).toInt ≤ 300 := hMV173 0 95
        have r181 : 0 ≤ ((V173 0 69)).toInt ∧ ((V173 0 69)).toInt ≤ 3000 := hMV173 0 69
        have r182 : 0 ≤ ((V173 0 76)).toInt ∧ ((V173 0 76)).toInt ≤ 2000000000 := hMV173 0 76
        have fm183 : FRM V V173 (-1) := (t169 : FRM V V173 (-1))
        have pk184 : PLK V V173 (V 0 98).toInt.toNat := (PLK.tr (PLK.rf : PLK V V (V 0 98).toInt.toNat) t171 (by (first | exact om_2b97926ac273 | omega)))
        have rp185 : DPc gB (seekM gB (mV V gs gt gu) ga gr gc gsc glv) V173 gr (z152.toInt) (V173 0 92) (24 * (10 - (V 0 93).toInt) + ((grk gc.toNat : Nat) : Int)) := by rw [sk_m pl9 (by omega) ns9 (Or.inl (by omega))]; exact t172
        exact W.iret (v := z152) hx hb hr (fun t ht hW => ⟨⟨z152, (V173, L), rfl, ⟨hMV173, agV173, rfl, (show 0 ≤ z152.toInt ∧ z152.toInt ≤ 2 from by first | exact om_8c285ac91b81 rgz152.1 rgz152.2 | first | omega | ((try (have i_t166 := Imp.go t166 (by omega))); omega)), (show (V173 0 93).toInt = (V 0 93).toInt from by first | exact om_570b691c1130 t155 | first | omega | ((try (have i_t166 := Imp.go t166 (by omega))); omega)), (show (V173 0 98).toInt = (V 0 98).toInt from by first | exact om_570b691c1130 t156 | first | omega | ((try (have i_t166 := Imp.go t166 (by omega))); omega)), (show (V 0 60).toInt ≤ (V173 0 60).toInt from by first | exact om_f4906d00fa52 t157 | first | omega | ((try (have i_t166 := Imp.go t166 (by omega))); omega)), (show (V 0 65).toInt ≤ (V173 0 65).toInt from by first | exact om_f4906d00fa52 t158 | first | omega | ((try (have i_t166 := Imp.go t166 (by omega))); omega)), (show (V173 0 65).toInt - (V 0 65).toInt ≤ (V173 0 60).toInt - (V 0 60).toInt from by first | exact om_b36b2a007ba2 t159 | first | omega | ((try (have i_t166 := Imp.go t166 (by omega))); omega)), (show (V173 0 73).toInt + (V173 0 95).toInt - (V173 0 65).toInt ≤ (V 0 73).toInt + (V 0 95).toInt - (V 0 65).toInt from by first | exact om_f04cba5a5a1f t160 | first | omega | ((try (have i_t166 := Imp.go t166 (by omega))); omega)), (show (V 0 73).toInt ≤ (V173 0 73).toInt from by first | exact om_f4906d00fa52 t161 | first | omega | ((try (have i_t166 := Imp.go t166 (by omega))); omega)), (show (V 0 69).toInt ≤ (V173 0 69).toInt from by first | exact om_f4906d00fa52 t162 | first | omega | ((try (have i_t166 := Imp.go t166 (by omega))); omega)), (show (V 0 95).toInt ≤ (V173 0 95).toInt from by first | exact om_f4906d00fa52 t163 | first | omega | ((try (have i_t166 := Imp.go t166 (by omega))); omega)), (show (V173 0 95).toInt - (V 0 95).toInt ≤ (V173 0 65).toInt - (V 0 65).toInt from by first | exact om_97b857202b58 t160 t161 | first | omega | ((try (have i_t166 := Imp.go t166 (by omega))); omega)), (show (V173 0 76).toInt - (V173 0 69).toInt - (V173 0 73).toInt ≤ (V 0 76).toInt - (V 0 69).toInt - (V 0 73).toInt from by first | exact om_f1910009b5d0 t165 | first | omega | ((try (have i_t166 := Imp.go t166 (by omega))); omega)), (Imp.mk (fun hp => have hp : z152.toInt = 0 := hp; (show 0 ≤ (V173 0 92).toInt ∧ (V173 0 92).toInt < (V173 0 60).toInt from by first | exact om_a1ce77cc111f ((Imp.go t166 (hp)).1) ((Imp.go t166 (hp)).2) | first | omega | ((try (have i_t166 := Imp.go t166 (by omega))); omega)))), t167, t168, fm183, t170, pk184, rp185⟩, by rw [ht]; exact hP, va_K.moved hW.alike hK, hD⟩, hS.F ht⟩) hS.2.2 dX12_gets_124
      · skip
        have f186 : ((V 59 (Int32.toNatClampNeg z147))).toInt ≠ 0 := b_neq rfl (by decide) c149
        have ht187 : TRs gB (seekM gB (mV V gs gt gu) ga gr gc gsc glv) (mV V 2 0 15, ga, gr) := by rw [sk_s pl9 (by omega) (show (V 59 _).toInt ≠ 0 from by rw [← kz9]; omega), mV_fail]; exact TRs.rf
        refine lv_aload_n hx hb dX12_gets_57 rfl (lv_at hl 2 rfl) ?_
        refine lv_bipush (v := 15) hx hb dX12_gets_58 (by decide) ?_
        have r188 : Int32.toInt 15 = 15 := by decide
        refine gA_int (gA_runV (As := [.int 15]) (rest := []) (ci := 12) (q0 := 0) hx hb hml hown hg hP hD hK hS hA hnw hgk (s_fails3 l D ks H.size ad kk V L 15 hMV ) w2247 w2249 w131 w172 w2250 rfl rfl hdV_yX12_fails ⟨(by show (0) + 1 ≤ (4 * d1 + 40 * d2 + 15); (first | exact om_6a44aa5f39d7 n6 r7.2 | omega)), (by show 8 + (2 + 11) + (0) ≤ (100 * d1 + 1000 * d2 + 590); (first | exact om_a9f57f50f2a3 n6 r7.2 | omega))⟩ rfl hl.1 rfl (Nat.le_of_ble_eq_true rfl) dX12_gets_60 ⟨Nat.le_of_ble_eq_true rfl, Nat.le_of_ble_eq_true rfl⟩) hP hD hK hS hA (fun z189 u190 H locs w191 hP hD hK hS => ?_)
        obtain ⟨V194, L195⟩ := u190
        obtain ⟨hMV194, ajV194, axL195, rgz189, t192, t193⟩ := w191
        have axL195 : L = L195 := Eq.symm axL195
        subst axL195
        have hP : va_P D vwCl (mw ad kk ks.1 V194 L) H := hP
        have hD : va_D A (mw ad kk ks.1 V194 L) := hD
        have hMV194 : rgd bM V194 := hMV194
        have ajV194 : agr [(0, 90), (0, 91)] [] V V194 := ajV194
        have agV194 : agr [(0, 60), (0, 65), (0, 68), (0, 69), (0, 73), (0, 76), (0, 90), (0, 91), (0, 92), (0, 93), (0, 95), (0, 96), (0, 98)] [59, 61, 62, 63, 64, 66, 67, 74, 75, 77, 78, 79, 80, 94, 97] V V194 := agV.tr ajV194 (by decide) (by decide)
        have rgz189 : 1 ≤ z189.toInt ∧ z189.toInt ≤ 1 := rgz189
        have t192 : (V194 0 90).toInt = 0 := t192
        have t193 : (V194 0 91).toInt = (Int32.toInt 15) := t193
        have pq196 : (V194 0 93).toInt = ((V 0 93)).toInt := congrArg Int32.toInt (ajV194 0 93 rfl)
        have pq197 : (V194 0 98).toInt = ((V 0 98)).toInt := congrArg Int32.toInt (ajV194 0 98 rfl)
        have pq198 : (V194 0 60).toInt = ((V 0 60)).toInt := congrArg Int32.toInt (ajV194 0 60 rfl)
        have pq199 : (V194 0 65).toInt = ((V 0 65)).toInt := congrArg Int32.toInt (ajV194 0 65 rfl)
        have pq200 : (V194 0 73).toInt = ((V 0 73)).toInt := congrArg Int32.toInt (ajV194 0 73 rfl)
        have pq201 : (V194 0 95).toInt = ((V 0 95)).toInt := congrArg Int32.toInt (ajV194 0 95 rfl)
        have pq202 : (V194 0 69).toInt = ((V 0 69)).toInt := congrArg Int32.toInt (ajV194 0 69 rfl)
        have pq203 : (V194 0 76).toInt = ((V 0 76)).toInt := congrArg Int32.toInt (ajV194 0 76 rfl)
        have pq204 : (V194 0 92).toInt = ((V 0 92)).toInt := congrArg Int32.toInt (ajV194 0 92 rfl)
        have rt205 : RT V194 := RT.ag rt hMV (show agr [(0, 90), (0, 91)] [] V V194 from (agr.tr agr.rf ajV194 (by decide) (by decide))) ⟨⟨rfl, fun _ => rfl, fun _ => rfl, fun _ => rfl, fun _ => rfl, fun _ => rfl, fun _ => rfl⟩, by decide, by decide, rfl, rfl, fun _ => rfl, fun _ => rfl, fun _ => rfl, fun _ => rfl, fun _ => rfl, fun _ => rfl⟩ (c0k.ag (show agr [(0, 90), (0, 91)] [] V V194 from (agr.tr agr.rf ajV194 (by decide) (by decide))) rfl)
        have fm206 : FRM V V194 (-1) := ((FRM.ag (show agr [(0, 90), (0, 91)] [] V V194 from (agr.tr agr.rf ajV194 (by decide) (by decide))) ⟨⟨rfl, fun _ => rfl, fun _ => rfl, fun _ => rfl, fun _ => rfl, fun _ => rfl, fun _ => rfl⟩, by decide, by decide, rfl, rfl, fun _ => rfl, fun _ => rfl, fun _ => rfl, fun _ => rfl, fun _ => rfl, fun _ => rfl⟩) : FRM V V194 (-1))
        have rj207 : RJm V194 gB := RJm.ag rj (show agr [(0, 90), (0, 91)] [] V V194 from (agr.tr agr.rf ajV194 (by decide) (by decide))) (by decide)
        have pk208 : PLK V V194 (V 0 98).toInt.toNat := (PLK.tr (PLK.rf : PLK V V (V 0 98).toInt.toNat) (PLK.ag (t := (V 0 98).toInt.toNat) (show agr [(0, 90), (0, 91)] [] V V194 from (agr.tr agr.rf ajV194 (by decide) (by decide))) (fun _ => rfl)) (Nat.le_refl _))
        have ht209 : TRs gB (seekM gB (mV V gs gt gu) ga gr gc gsc glv) (mV V194 2 0 15, ga, gr) := by rw [mV_ag (show agr [(0, 90), (0, 91)] [] V V194 from (agr.tr agr.rf ajV194 (by decide) (by decide))) (by decide)]; exact ht187
        have rp210 : DPc gB (seekM gB (mV V gs gt gu) ga gr gc gsc glv) V194 gr (z189.toInt) (V194 0 92) (24 * (10 - (V 0 93).toInt) + ((grk gc.toNat : Nat) : Int)) := DPc.m1 ht209 (by (first | exact om_14b36ee974dd rgz189.1 rgz189.2 | omega)) (by (first | exact om_e43208099ff7 t192 | omega)) (by (first | exact om_92fb8cd53297 r188 t193 | omega)) (by omega) (by (first | exact om_b88ff5295f31 r7.2 | omega))
        exact W.iret (v := z189) hx hb hr (fun t ht hW => ⟨⟨z189, (V194, L), rfl, ⟨hMV194, agV194, rfl, (show 0 ≤ z189.toInt ∧ z189.toInt ≤ 2 from by (first | exact om_4a983af70113 rgz189.1 rgz189.2 | omega)), (show (V194 0 93).toInt = (V 0 93).toInt from by (first | exact om_570b691c1130 pq196 | omega)), (show (V194 0 98).toInt = (V 0 98).toInt from by (first | exact om_570b691c1130 pq197 | omega)), (show (V 0 60).toInt ≤ (V194 0 60).toInt from by (first | exact om_abdc88b0c8fc pq198 | omega)), (show (V 0 65).toInt ≤ (V194 0 65).toInt from by (first | exact om_abdc88b0c8fc pq199 | omega)), (show (V194 0 65).toInt - (V 0 65).toInt ≤ (V194 0 60).toInt - (V 0 60).toInt from by (first | exact om_3cbf875a340a pq198 pq199 | omega)), (show (V194 0 73).toInt + (V194 0 95).toInt - (V194 0 65).toInt ≤ (V 0 73).toInt + (V 0 95).toInt - (V 0 65).toInt from by (first | exact om_bff6d9a49583 pq199 pq200 pq201 | omega)), (show (V 0 73).toInt ≤ (V194 0 73).toInt from by (first | exact om_abdc88b0c8fc pq200 | omega)), (show (V 0 69).toInt ≤ (V194 0 69).toInt from by (first | exact om_abdc88b0c8fc pq202 | omega)), (show (V 0 95).toInt ≤ (V194 0 95).toInt from by (first | exact om_abdc88b0c8fc pq201 | omega)), (show (V194 0 95).toInt - (V 0 95).toInt ≤ (V194 0 65).toInt - (V 0 65).toInt from by (first | exact om_3cbf875a340a pq199 pq201 | omega)), (show (V194 0 76).toInt - (V194 0 69).toInt - (V194 0 73).toInt ≤ (V 0 76).toInt - (V 0 69).toInt - (V 0 73).toInt from by (first | exact om_fc0a03057b6c pq200 pq202 pq203 | omega)), (Imp.mk (fun hp => have hp : z189.toInt = 0 := hp; (show 0 ≤ (V194 0 92).toInt ∧ (V194 0 92).toInt < (V194 0 60).toInt from by omega))), (Imp.mk (fun h9 => by exfalso; omega)), rt205, fm206, rj207, pk208, rp210⟩, by rw [ht]; exact hP, va_K.moved hW.alike hK, hD⟩, hS.F ht⟩) hS.2.2 dX12_gets_63
  · skip
    have f211 : z9.toInt < 0 := b_nle (by decide) rfl c13
    have ht212 : TRs gB (seekM gB (mV V gs gt gu) ga gr gc gsc glv) (mV V 2 0 14, ga, gr) := by rw [sk_p pl9 (by omega), mV_fail]; exact TRs.rf
    refine lv_aload_n hx hb dX12_gets_11 rfl (lv_at hl 1 rfl) ?_
    refine lv_bipush (v := 14) hx hb dX12_gets_12 (by decide) ?_
    have r213 : Int32.toInt 14 = 14 := by decide
    refine gA_int (gA_runV (As := [.int 14]) (rest := []) (ci := 12) (q0 := 0) hx hb hml hown hg hP hD hK hS hA hnw hgk (s_fails3 l D ks H.size ad kk V L 14 hMV ) w2247 w2249 w131 w172 w2250 rfl rfl hdV_yX12_fails ⟨(by show (0) + 1 ≤ (4 * d1 + 40 * d2 + 15); (first | exact om_6a44aa5f39d7 n6 r7.2 | omega)), (by show 8 + (2 + 11) + (0) ≤ (100 * d1 + 1000 * d2 + 590); (first | exact om_a9f57f50f2a3 n6 r7.2 | omega))⟩ rfl hl.1 rfl (Nat.le_of_ble_eq_true rfl) dX12_gets_14 ⟨Nat.le_of_ble_eq_true rfl, Nat.le_of_ble_eq_true rfl⟩) hP hD hK hS hA (fun z214 u215 H locs w216 hP hD hK hS => ?_)
    obtain ⟨V219, L220⟩ := u215
    obtain ⟨hMV219, ajV219, axL220, rgz214, t217, t218⟩ := w216
    have axL220 : L = L220 := Eq.symm axL220
    subst axL220
    have hP : va_P D vwCl (mw ad kk ks.1 V219 L) H := hP
    have hD : va_D A (mw ad kk ks.1 V219 L) := hD
    have hMV219 : rgd bM V219 := hMV219
    have ajV219 : agr [(0, 90), (0, 91)] [] V V219 := ajV219
    have agV219 : agr [(0, 60), (0, 65), (0, 68), (0, 69), (0, 73), (0, 76), (0, 90), (0, 91), (0, 92), (0, 93), (0, 95), (0, 96), (0, 98)] [59, 61, 62, 63, 64, 66, 67, 74, 75, 77, 78, 79, 80, 94, 97] V V219 := agV.tr ajV219 (by decide) (by decide)
    have rgz214 : 1 ≤ z214.toInt ∧ z214.toInt ≤ 1 := rgz214
    have t217 : (V219 0 90).toInt = 0 := t217
    have t218 : (V219 0 91).toInt = (Int32.toInt 14) := t218
    have pq221 : (V219 0 93).toInt = ((V 0 93)).toInt := congrArg Int32.toInt (ajV219 0 93 rfl)
    have pq222 : (V219 0 98).toInt = ((V 0 98)).toInt := congrArg Int32.toInt (ajV219 0 98 rfl)
    have pq223 : (V219 0 60).toInt = ((V 0 60)).toInt := congrArg Int32.toInt (ajV219 0 60 rfl)
    have pq224 : (V219 0 65).toInt = ((V 0 65)).toInt := congrArg Int32.toInt (ajV219 0 65 rfl)
    have pq225 : (V219 0 73).toInt = ((V 0 73)).toInt := congrArg Int32.toInt (ajV219 0 73 rfl)
    have pq226 : (V219 0 95).toInt = ((V 0 95)).toInt := congrArg Int32.toInt (ajV219 0 95 rfl)
    have pq227 : (V219 0 69).toInt = ((V 0 69)).toInt := congrArg Int32.toInt (ajV219 0 69 rfl)
    have pq228 : (V219 0 76).toInt = ((V 0 76)).toInt := congrArg Int32.toInt (ajV219 0 76 rfl)
    have pq229 : (V219 0 92).toInt = ((V 0 92)).toInt := congrArg Int32.toInt (ajV219 0 92 rfl)
    have rt230 : RT V219 := RT.ag rt hMV (show agr [(0, 90), (0, 91)] [] V V219 from (agr.tr agr.rf ajV219 (by decide) (by decide))) ⟨⟨rfl, fun _ => rfl, fun _ => rfl, fun _ => rfl, fun _ => rfl, fun _ => rfl, fun _ => rfl⟩, by decide, by decide, rfl, rfl, fun _ => rfl, fun _ => rfl, fun _ => rfl, fun _ => rfl, fun _ => rfl, fun _ => rfl⟩ (c0k.ag (show agr [(0, 90), (0, 91)] [] V V219 from (agr.tr agr.rf ajV219 (by decide) (by decide))) rfl)
    have fm231 : FRM V V219 (-1) := ((FRM.ag (show agr [(0, 90), (0, 91)] [] V V219 from (agr.tr agr.rf ajV219 (by decide) (by decide))) ⟨⟨rfl, fun _ => rfl, fun _ => rfl, fun _ => rfl, fun _ => rfl, fun _ => rfl, fun _ => rfl⟩, by decide, by decide, rfl, rfl, fun _ => rfl, fun _ => rfl, fun _ => rfl, fun _ => rfl, fun _ => rfl, fun _ => rfl⟩) : FRM V V219 (-1))
    have rj232 : RJm V219 gB := RJm.ag rj (show agr [(0, 90), (0, 91)] [] V V219 from (agr.tr agr.rf ajV219 (by decide) (by decide))) (by decide)
    have pk233 : PLK V V219 (V 0 98).toInt.toNat := (PLK.tr (PLK.rf : PLK V V (V 0 98).toInt.toNat) (PLK.ag (t := (V 0 98).toInt.toNat) (show agr [(0, 90), (0, 91)] [] V V219 from (agr.tr agr.rf ajV219 (by decide) (by decide))) (fun _ => rfl)) (Nat.le_refl _))
    have ht234 : TRs gB (seekM gB (mV V gs gt gu) ga gr gc gsc glv) (mV V219 2 0 14, ga, gr) := by rw [mV_ag (show agr [(0, 90), (0, 91)] [] V V219 from (agr.tr agr.rf ajV219 (by decide) (by decide))) (by decide)]; exact ht212
    have rp235 : DPc gB (seekM gB (mV V gs gt gu) ga gr gc gsc glv) V219 gr (z214.toInt) (V219 0 92) (24 * (10 - (V 0 93).toInt) + ((grk gc.toNat : Nat) : Int)) := DPc.m1 ht234 (by (first | exact om_14b36ee974dd rgz214.1 rgz214.2 | omega)) (by (first | exact om_e43208099ff7 t217 | omega)) (by (first | exact om_c82e1911b75c r213 t218 | omega)) (by omega) (by (first | exact om_b88ff5295f31 r7.2 | omega))
    exact W.iret (v := z214) hx hb hr (fun t ht hW => ⟨⟨z214, (V219, L), rfl, ⟨hMV219, agV219, rfl, (show 0 ≤ z214.toInt ∧ z214.toInt ≤ 2 from by (first | exact om_4a983af70113 rgz214.1 rgz214.2 | omega)), (show (V219 0 93).toInt = (V 0 93).toInt from by (first | exact om_570b691c1130 pq221 | omega)), (show (V219 0 98).toInt = (V 0 98).toInt from by (first | exact om_570b691c1130 pq222 | omega)), (show (V 0 60).toInt ≤ (V219 0 60).toInt from by (first | exact om_abdc88b0c8fc pq223 | omega)), (show (V 0 65).toInt ≤ (V219 0 65).toInt from by (first | exact om_abdc88b0c8fc pq224 | omega)), (show (V219 0 65).toInt - (V 0 65).toInt ≤ (V219 0 60).toInt - (V 0 60).toInt from by (first | exact om_3cbf875a340a pq223 pq224 | omega)), (show (V219 0 73).toInt + (V219 0 95).toInt - (V219 0 65).toInt ≤ (V 0 73).toInt + (V 0 95).toInt - (V 0 65).toInt from by (first | exact om_bff6d9a49583 pq224 pq225 pq226 | omega)), (show (V 0 73).toInt ≤ (V219 0 73).toInt from by (first | exact om_abdc88b0c8fc pq225 | omega)), (show (V 0 69).toInt ≤ (V219 0 69).toInt from by (first | exact om_abdc88b0c8fc pq227 | omega)), (show (V 0 95).toInt ≤ (V219 0 95).toInt from by (first | exact om_abdc88b0c8fc pq226 | omega)), (show (V219 0 95).toInt - (V 0 95).toInt ≤ (V219 0 65).toInt - (V 0 65).toInt from by (first | exact om_3cbf875a340a pq224 pq226 | omega)), (show (V219 0 76).toInt - (V219 0 69).toInt - (V219 0 73).toInt ≤ (V 0 76).toInt - (V 0 69).toInt - (V 0 73).toInt from by (first | exact om_fc0a03057b6c pq225 pq227 pq228 | omega)), (Imp.mk (fun hp => have hp : z214.toInt = 0 := hp; (show 0 ≤ (V219 0 92).toInt ∧ (V219 0 92).toInt < (V219 0 60).toInt from by omega))), (Imp.mk (fun h9 => by exfalso; omega)), rt230, fm231, rj232, pk233, rp235⟩, by rw [ht]; exact hP, va_K.moved hW.alike hK, hD⟩, hS.F ht⟩) hS.2.2 dX12_gets_17
end
section

set_option maxHeartbeats 4000000 in
set_option maxRecDepth 100000 in
theorem s_closesD {l : Launch} {D : va_G} {ks : KS} {d1 d2 : Nat} (hk_s_worksD : K_s_worksD l D ks d1 d2) : K_s_closesD l D ks d1 d2 := by
  intro sz ad kk V L p0 gB grk gr ga gs gt gu glv go gc gsc gme hMV rg_p0 rt n1 n2 n3 n4 n5 n6 bk br rj hl9 hp9 oq1 n7 st1 zl9 zo9 zc9 zs9 cm9
  refine g_met (q_s_closesD D ks ad kk V L p0 gB grk gr ga gs gt gu glv go gc gsc gme) (by decide) (Nat.le_of_ble_eq_true rfl) ?_
  intro p e s m below meth c A ls H locs hx hb hr hml hown hg hlocks hin hnw hgk hP hK hD hS hA hl
  have hown : s.vm.findClass RX12 = some m.cls := hown
  have hl : lv_has ls 4 [(0, .ref (ad 0)), (1, .int p0)] := hl
  have hP : va_P D vwCl (mw ad kk ks.1 V L) H := hP
  have hD : va_D A (mw ad kk ks.1 V L) := hD
  have hK : va_K D vwCl (mty kk) s := hK
  have agV : agr [(0, 60), (0, 65), (0, 68), (0, 69), (0, 73), (0, 76), (0, 90), (0, 91), (0, 92), (0, 93), (0, 95), (0, 96), (0, 98)] [59, 61, 62, 63, 64, 66, 67, 74, 75, 77, 78, 79, 80, 94, 97] V V := agr.rf
  have r1 : 0 ≤ ((V 0 65)).toInt ∧ ((V 0 65)).toInt ≤ 1000000 := hMV 0 65
  have r2 : 0 ≤ ((V 0 60)).toInt ∧ ((V 0 60)).toInt ≤ 300 := hMV 0 60
  have r3 : 0 ≤ ((V 0 95)).toInt ∧ ((V 0 95)).toInt ≤ 300 := hMV 0 95
  have r4 : 0 ≤ ((V 0 73)).toInt ∧ ((V 0 73)).toInt ≤ 1000000 := hMV 0 73
  have r5 : 0 ≤ ((V 0 76)).toInt ∧ ((V 0 76)).toInt ≤ 2000000000 := hMV 0 76
  have r6 : 0 ≤ ((V 0 69)).toInt ∧ ((V 0 69)).toInt ≤ 3000 := hMV 0 69
  have r7 : 0 ≤ ((V 0 93)).toInt ∧ ((V 0 93)).toInt ≤ 10 := hMV 0 93
  have r8 : 0 ≤ ((V 0 98)).toInt ∧ ((V 0 98)).toInt ≤ 20000 := hMV 0 98
  have r9 : 0 ≤ ((V 63 (Int32.toNatClampNeg p0))).toInt ∧ ((V 63 (Int32.toNatClampNeg p0))).toInt ≤ 2 := hMV 63 (Int32.toNatClampNeg p0)
  have r10 : 0 ≤ ((V 61 (Int32.toNatClampNeg p0))).toInt ∧ ((V 61 (Int32.toNatClampNeg p0))).toInt ≤ 23 := hMV 61 (Int32.toNatClampNeg p0)
  have r11 : 0 ≤ ((V 62 (Int32.toNatClampNeg p0))).toInt ∧ ((V 62 (Int32.toNatClampNeg p0))).toInt ≤ 39 := hMV 62 (Int32.toNatClampNeg p0)
  have ht12 : TRs gB (mV V 0 gt gu, ga, Fclo0 glv go gc gsc :: gr) (mV V 0 gt gu, ga, Fclo0 glv go gc gsc :: gr) := TRs.rf
  have ko9 := i_clamp (x := p0) rfl (by (first | exact om_eafa9039069c rg_p0.1 | omega))
  have go9 : go.toNat = Int32.toNatClampNeg p0 := by rw [← zo9]; rfl
  have gc9 : gc.toNat = Int32.toNatClampNeg (V 61 (Int32.toNatClampNeg p0)) := by rw [← zc9]; rfl
  have cn8 := RTn rt bk (o := Int32.toNatClampNeg p0) (by omega)
  refine lv_bipush (v := 24) hx hb dX12_closes_0 (by decide) ?_
  refine lv_aload_n hx hb dX12_closes_2 rfl (lv_at hl 0 rfl) ?_
  refine va_get (D := D) (ci := 12) (v := .int (V 0 11)) (C := RX12) (T := TX12) (N := 100) hx hb hg inX12 hown hK hP 0 rfl rfl 11 (by decide) (hg _ w1717) (fun _ h9 => h9) rfl dX12_closes_3 ?_
  have r13 : 0 ≤ ((V 0 11)).toInt ∧ ((V 0 11)).toInt ≤ 1 := hMV 0 11
  refine lv_imul hx hb dX12_closes_6 ?_
  refine lv_topi (fun z14 ez14 => ?_)
  have hz14 : z14.toInt = 24 * ((V 0 11)).toInt := i_mul ez14 (by decide) rfl (by (first | exact om_3f8aba7b6ce1 r13.1 r13.2 | omega))
  refine lv_aload_n hx hb dX12_closes_7 rfl (lv_at hl 0 rfl) ?_
  refine va_get (D := D) (ci := 12) (v := .ref (ad 61)) (C := RX12) (T := TX12) (N := 100) hx hb hg inX12 hown hK hP 0 rfl rfl 61 (by decide) (hg _ w1767) (fun _ h9 => h9) rfl dX12_closes_8 ?_
  refine lv_iload_n hx hb dX12_closes_11 rfl (lv_at hl 1 rfl) ?_
  refine va_iald (D := D) (i := p0) hx hb hK hP 46 45 rfl rfl (i_in (a := p0.toInt) rfl (by (first | exact om_375eda9ff8f1 rg_p0.1 rg_p0.2 | omega))) dX12_closes_12 ?_
  refine lv_iadd hx hb dX12_closes_13 ?_
  refine lv_topi (fun z15 ez15 => ?_)
  have hz15 : z15.toInt = z14.toInt + ((V 61 (Int32.toNatClampNeg p0))).toInt := i_add ez15 rfl rfl (by (first | exact om_6c84dfc0d33f r10.1 r10.2 r13.1 r13.2 hz14 | omega))
  refine lv_istore_n (lv' := [(2, .int z15), (0, .ref (ad 0)), (1, .int p0)]) hx hb dX12_closes_14 rfl hl (by decide) rfl (fun ls hl => ?_)
  refine lv_iconst (v := 0) hx hb dX12_closes_15 (by decide) ?_
  refine lv_istore_n (lv' := [(3, .int 0), (2, .int z15), (0, .ref (ad 0)), (1, .int p0)]) hx hb dX12_closes_16 rfl hl (by decide) rfl (fun ls hl => ?_)
  refine lv_aload_n hx hb dX12_closes_17 rfl (lv_at hl 2 rfl) ?_
  refine va_get (D := D) (ci := 12) (v := .ref (ad 33)) (C := RX12) (T := TX12) (N := 100) hx hb hg inX12 hown hK hP 0 rfl rfl 33 (by decide) (hg _ w1739) (fun _ h9 => h9) rfl dX12_closes_18 ?_
  refine lv_iload_n hx hb dX12_closes_21 rfl (lv_at hl 1 rfl) ?_
  have ko := i_clamp (x := p0) rfl (by (first | exact om_eafa9039069c rg_p0.1 | omega))
  have kn : (nwh V : Int) = (V 0 11).toInt := i_clamp (x := V 0 11) rfl (by have h9 : 0 ≤ (V 0 11).toInt ∧ (V 0 11).toInt ≤ 1 := hMV 0 11; omega)
  have hO := rt.2.2.1 (Int32.toNatClampNeg p0) (by omega)
  have cok := TB.compE rt.1 hO
  have r61 : 0 ≤ (V 61 (Int32.toNatClampNeg p0)).toInt ∧ (V 61 (Int32.toNatClampNeg p0)).toInt ≤ 23 := hMV 61 _
  have k61 := i_clamp (x := V 61 (Int32.toNatClampNeg p0)) rfl r61.1
  have nb : (nwh V : Int) ≤ 1 := by have h9 : 0 ≤ (V 0 11).toInt ∧ (V 0 11).toInt ≤ 1 := hMV 0 11; omega
  have kz9 : Int32.toNatClampNeg z15 = 24 * nwh V + Int32.toNatClampNeg (V 61 (Int32.toNatClampNeg p0)) := by have h9 := i_clamp (x := z15) rfl (by (first | exact om_11587583f9f8 r10.1 r13.1 hz14 hz15 | omega)); omega
  have cs9 := BKm.cs bk cn8
  rw [← kz9, ← gc9] at cs9
  refine va_iald (D := D) (i := z15) hx hb hK hP 26 25 rfl rfl (i_in (a := z15.toInt) rfl (by (first | exact om_cf341bf82a51 r10.1 r10.2 r13.1 r13.2 hz14 hz15 | omega))) dX12_closes_22 ?_
  refine lv_if_lt (tgt := 46) hx hb dX12_closes_23 (by decide) (fun c16 => ?_) (fun c16 => ?_)
  · skip
    have f17 : ((V 33 (Int32.toNatClampNeg z15))).toInt < 0 := b_lt rfl (by decide) c16
    have bz9 : bE gB gc.toNat 31 = 0 := cs9.1 (by omega)
    refine lv_aload_n hx hb dX12_closes_46 rfl (lv_at hl 2 rfl) ?_
    refine va_get (D := D) (ci := 12) (v := .int (V 0 73)) (C := RX12) (T := TX12) (N := 100) hx hb hg inX12 hown hK hP 0 rfl rfl 73 (by decide) (hg _ w1779) (fun _ h9 => h9) rfl dX12_closes_47 ?_
    refine lv_sipush (v := 300) hx hb dX12_closes_50 (by decide) ?_
    refine lv_icmp_ge (tgt := 109) hx hb dX12_closes_53 (by decide) (fun c18 => ?_) (fun c18 => ?_)
    · skip
      have f19 : 300 ≤ ((V 0 73)).toInt := b_le (by decide) rfl c18
      refine lv_aload_n hx hb dX12_closes_109 rfl (lv_at hl 2 rfl) ?_
      refine lv_dup hx hb dX12_closes_110 rfl ?_
      refine va_get (D := D) (ci := 12) (v := .int (V 0 73)) (C := RX12) (T := TX12) (N := 100) hx hb hg inX12 hown hK hP 0 rfl rfl 73 (by decide) (hg _ w1779) (fun _ h9 => h9) rfl dX12_closes_111 ?_
      refine lv_iconst (v := 1) hx hb dX12_closes_114 (by decide) ?_
      refine lv_iadd hx hb dX12_closes_115 ?_
      refine lv_topi (fun z20 ez20 => ?_)
      have hz20 : z20.toInt = ((V 0 73)).toInt + 1 := i_add ez20 rfl (by decide) (by (first | exact om_c8e08cca8d6c n1 n3 r2.2 r3.1 f19 | omega))
      refine va_put (D := D) (ci := 12) (v := .int z20) (ty := tyX12 73) (C := RX12) (T := TX12) (N := 100) hx hb hg inX12 tyX12 tyX12_ok nmX12 hown hK hP hD hS 0 rfl rfl 73 (by decide) (hg _ w1779) (fun _ h9 => h9) rfl (tyX12_ok 73 (by decide)) rfl rfl (Nat.le_of_ble_eq_true rfl) dX12_closes_116 (fun H locs hP hD hS => ?_)
      obtain ⟨V21, hV21⟩ : ∃ z, z = up2 V 0 73 z20 := ⟨_, rfl⟩
      have hP : va_P D vwCl (mw ad kk ks.1 V21 L) H := by rw [hV21]; exact hP
      have hD : va_D A (mw ad kk ks.1 V21 L) := by rw [hV21]; exact hD
      have hMV21 : rgd bM V21 := hMV.put hV21 (show 0 ≤ z20.toInt ∧ z20.toInt ≤ 1000000 from by (first | exact om_f7374d1647dd n1 n3 r2.2 r3.1 f19 hz20 | omega))
      have agV21 : agr [(0, 60), (0, 65), (0, 68), (0, 69), (0, 73), (0, 76), (0, 90), (0, 91), (0, 92), (0, 93), (0, 95), (0, 96), (0, 98)] [59, 61, 62, 63, 64, 66, 67, 74, 75, 77, 78, 79, 80, 94, 97] V V21 := agV.up hV21 rfl
      have fm22 : FRM V V21 (-1) := ((FRM.ag (show agr [(0, 73)] [] V V21 from (agr.up agr.rf hV21 rfl)) ⟨⟨rfl, fun _ => rfl, fun _ => rfl, fun _ => rfl, fun _ => rfl, fun _ => rfl, fun _ => rfl⟩, by decide, by decide, rfl, rfl, fun _ => rfl, fun _ => rfl, fun _ => rfl, fun _ => rfl, fun _ => rfl, fun _ => rfl⟩) : FRM V V21 (-1))
      have ko2 := i_clamp (x := p0) rfl (by (first | exact om_eafa9039069c rg_p0.1 | omega))
      have hst := (fm22.2.1 (Int32.toNatClampNeg p0) (by omega)).2.2.2 st1
      have rt23 : RT V21 := RT.ag rt hMV (show agr [(0, 73)] [] V V21 from (agr.up agr.rf hV21 rfl)) ⟨⟨rfl, fun _ => rfl, fun _ => rfl, fun _ => rfl, fun _ => rfl, fun _ => rfl, fun _ => rfl⟩, by decide, by decide, rfl, rfl, fun _ => rfl, fun _ => rfl, fun _ => rfl, fun _ => rfl, fun _ => rfl, fun _ => rfl⟩ (c0k.ag (show agr [(0, 73)] [] V V21 from (agr.up agr.rf hV21 rfl)) rfl)
      have hs2 : (V21 63 (Int32.toNatClampNeg p0)).toInt ≤ 2 := (hMV21 63 _).2
      refine lv_aload_n hx hb dX12_closes_119 rfl (lv_at hl 2 rfl) ?_
      refine va_get (D := D) (ci := 12) (v := .ref (ad 63)) (C := RX12) (T := TX12) (N := 100) hx hb hg inX12 hown hK hP 0 rfl rfl 63 (by decide) (hg _ w1769) (fun _ h9 => h9) rfl dX12_closes_120 ?_
      refine lv_iload_n hx hb dX12_closes_123 rfl (lv_at hl 3 rfl) ?_
      refine lv_iconst (v := 2) hx hb dX12_closes_124 (by decide) ?_
      refine va_iast (D := D) (i := p0) (x := 2) hx hb hK hP hD hS 48 47 rfl rfl (i_in (a := p0.toInt) rfl (by (first | exact om_375eda9ff8f1 rg_p0.1 rg_p0.2 | omega))) dX12_closes_125 (fun H locs hP hD hS => ?_)
      obtain ⟨V24, hV24⟩ : ∃ z, z = up2 V21 63 (Int32.toNatClampNeg p0) 2 := ⟨_, rfl⟩
      have hP : va_P D vwCl (mw ad kk ks.1 V24 L) H := by rw [hV24]; exact hP
      have hD : va_D A (mw ad kk ks.1 V24 L) := by rw [hV24]; exact hD
      have hMV24 : rgd bM V24 := hMV21.put hV24 (show 0 ≤ Int32.toInt 2 ∧ Int32.toInt 2 ≤ 2 from by decide)
      have agV24 : agr [(0, 60), (0, 65), (0, 68), (0, 69), (0, 73), (0, 76), (0, 90), (0, 91), (0, 92), (0, 93), (0, 95), (0, 96), (0, 98)] [59, 61, 62, 63, 64, 66, 67, 74, 75, 77, 78, 79, 80, 94, 97] V V24 := agV21.up hV24 rfl
      have nt25 : mV V24 0 gt gu = mU (mNote (mV V 0 gt gu) go 0) 3 go.toNat 2 := (mV_nt0 (x := go) (y := 0) hV21 hV24 (by omega) (by omega)).trans (by rw [show Int32.toInt 2 = 2 from by decide, go9])
      have r26 : 0 ≤ (V 0 65).toInt := (hMV 0 65).1
      have r27 : (V 0 60).toInt ≤ 300 := (hMV 0 60).2
      have r28 : 0 ≤ (V 0 93).toInt ∧ (V 0 93).toInt ≤ 10 := hMV 0 93
      have ht29 : TRs gB (mV V 0 gt gu, ga, Fclo0 glv go gc gsc :: gr) (mV V24 1 gt gu, 0, gr) := TRs.st ht12 (SF.mk (show gr.length ≤ 394 from by (first | exact om_e163cc6f2f7b hl9 r7.2 | omega)) (show 0 + (totP gr) ≤ 2000 from by (first | exact om_2039720f7f75 hp9 r7.2 | omega)) (show 0 ≤ (V 0 65).toInt ∧ (V 0 65).toInt ≤ 300 from by (first | exact om_16d1a7c24be6 n1 r1.1 r2.2 | omega)) (fun h9 => absurd (show (0 : Int) = 2 from h9) (by decide)) trivial) ((st_17e bz9).trans ((cl_w (show ¬ (0 : Int) = 2 by decide) (show ¬ (0 : Int) = 3 by decide)).trans (by rw [← nt25]; exact mV_ans)))
      have rj30 : RJm V21 gB := RJm.ag rj (show agr [(0, 73)] [] V V21 from (agr.up agr.rf hV21 rfl)) (by decide)
      have rj31 : RJm V24 gB := RJm.st rj30 hV24 (by decide) (fun h9 => absurd h9 (by decide))
      refine lv_iload_n hx hb dX12_closes_126 rfl (lv_at hl 0 rfl) ?_
      refine lv_iconst (v := 2) hx hb dX12_closes_127 (by decide) ?_
      refine lv_icmp_ne (tgt := 135) hx hb dX12_closes_128 (by decide) (fun _ => ?_) (fun q => absurd q (by decide))
      refine lv_iconst (v := 0) hx hb dX12_closes_135 (by decide) ?_
      have pq32 : (V24 0 93).toInt = ((V 0 93)).toInt := congrArg Int32.toInt ((up2_o hV24 (by decide)).trans (up2_k hV21 (by decide)))
      have pq33 : (V24 0 98).toInt = ((V 0 98)).toInt := congrArg Int32.toInt ((up2_o hV24 (by decide)).trans (up2_k hV21 (by decide)))
      have pq34 : (V24 0 60).toInt = ((V 0 60)).toInt := congrArg Int32.toInt ((up2_o hV24 (by decide)).trans (up2_k hV21 (by decide)))
      have pq35 : (V24 0 65).toInt = ((V 0 65)).toInt := congrArg Int32.toInt ((up2_o hV24 (by decide)).trans (up2_k hV21 (by decide)))
      have pq36 : (V24 0 73).toInt = z20.toInt := congrArg Int32.toInt ((up2_o hV24 (by decide)).trans (up2_s hV21))
      have pq37 : (V24 0 95).toInt = ((V 0 95)).toInt := congrArg Int32.toInt ((up2_o hV24 (by decide)).trans (up2_k hV21 (by decide)))
      have pq38 : (V24 0 69).toInt = ((V 0 69)).toInt := congrArg Int32.toInt ((up2_o hV24 (by decide)).trans (up2_k hV21 (by decide)))
      have pq39 : (V24 0 76).toInt = ((V 0 76)).toInt := congrArg Int32.toInt ((up2_o hV24 (by decide)).trans (up2_k hV21 (by decide)))
      have pq40 : (V24 63 (Int32.toNatClampNeg p0)).toInt = 2 := (congrArg Int32.toInt (up2_s hV24)).trans (by decide)
      have pq41 : (V21 0 95).toInt = ((V 0 95)).toInt := congrArg Int32.toInt (up2_k hV21 (by decide))
      have pk42 : PLK V V24 (V 0 98).toInt.toNat := (PLK.tr (PLK.rf : PLK V V (V 0 98).toInt.toNat) (PLK.ag (t := (V 0 98).toInt.toNat) (show agr [(0, 73)] [63] V V24 from (agr.up (agr.up agr.rf hV21 rfl) hV24 rfl)) (fun _ => rfl)) (Nat.le_refl _))
      have rp43 : DCl gB (mV V 0 gt gu, ga, Fclo0 glv go gc gsc :: gr) V24 gr (0) := ⟨1, gt, gu, 0, ht29, (fun h9 => absurd h9 (by decide)), (fun h9 => (by decide)), (fun h9 => absurd h9 (by decide))⟩
      exact W.zret (v := 0) hx hb hr rfl (fun t ht hW => ⟨⟨0, (V24, L), rfl, ⟨hMV24, agV24, rfl, (by decide), (show (V24 0 93).toInt = (V 0 93).toInt from by (first | exact om_570b691c1130 pq32 | omega)), (show (V24 0 98).toInt = (V 0 98).toInt from by (first | exact om_570b691c1130 pq33 | omega)), (show (V 0 60).toInt ≤ (V24 0 60).toInt from by (first | exact om_abdc88b0c8fc pq34 | omega)), (show (V 0 65).toInt ≤ (V24 0 65).toInt from by (first | exact om_abdc88b0c8fc pq35 | omega)), (show (V24 0 65).toInt - (V 0 65).toInt ≤ (V24 0 60).toInt - (V 0 60).toInt from by (first | exact om_3cbf875a340a pq34 pq35 | omega)), (show (V24 0 73).toInt + (V24 0 95).toInt - (V24 0 65).toInt ≤ (V 0 73).toInt + (V 0 95).toInt - (V 0 65).toInt + 1 from by (first | exact om_e85f0a785578 hz20 pq35 pq36 pq37 | omega)), (show (V 0 73).toInt ≤ (V24 0 73).toInt from by (first | exact om_590e33a4cd4f hz20 pq36 | omega)), (show (V 0 69).toInt ≤ (V24 0 69).toInt from by (first | exact om_abdc88b0c8fc pq38 | omega)), (show (V24 0 95).toInt = (V 0 95).toInt from by (first | exact om_570b691c1130 pq37 | omega)), (show (V24 0 76).toInt - (V24 0 69).toInt - (V24 0 73).toInt ≤ (V 0 76).toInt - (V 0 69).toInt - (V 0 73).toInt from by (first | exact om_1ce9b0d19885 hz20 pq36 pq38 pq39 | omega)), (show (V24 63 (Int32.toNatClampNeg p0)).toInt = 2 from by (first | exact om_6aa5e6f8c558 pq40 | omega)), (RT.state rt23 hMV21 hV24 (by decide)), (FRM.tr fm22 (FRM.state hV24 (Or.inr ⟨by omega, by show _ ≤ (2 : Int32).toInt; have h9 : (2 : Int32).toInt = 2 := (by decide); omega⟩)) agV21 ⟨rfl, fun _ => rfl, fun _ => rfl, fun _ => rfl, fun _ => rfl, fun _ => rfl, fun _ => rfl⟩ (by (first | exact om_abdc88b0c8fc pq41 | omega))), rj31, pk42, rp43⟩, by rw [ht]; exact hP, va_K.moved hW.alike hK, hD⟩, hS.F ht⟩) hS.2.2 dX12_closes_136
    · skip
      have f44 : ((V 0 73)).toInt < 300 := b_nle (by decide) rfl c18
      refine lv_aload_n hx hb dX12_closes_56 rfl (lv_at hl 2 rfl) ?_
      refine va_get (D := D) (ci := 12) (v := .ref (ad 74)) (C := RX12) (T := TX12) (N := 100) hx hb hg inX12 hown hK hP 0 rfl rfl 74 (by decide) (hg _ w1780) (fun _ h9 => h9) rfl dX12_closes_57 ?_
      refine lv_aload_n hx hb dX12_closes_60 rfl (lv_at hl 2 rfl) ?_
      refine va_get (D := D) (ci := 12) (v := .int (V 0 73)) (C := RX12) (T := TX12) (N := 100) hx hb hg inX12 hown hK hP 0 rfl rfl 73 (by decide) (hg _ w1779) (fun _ h9 => h9) rfl dX12_closes_61 ?_
      refine lv_iload_n hx hb dX12_closes_64 rfl (lv_at hl 3 rfl) ?_
      refine va_iast (D := D) (i := (V 0 73)) (x := p0) hx hb hK hP hD hS 52 51 rfl rfl (i_in (a := ((V 0 73)).toInt) rfl (by (first | exact om_5b0e5b7d98b0 r4.1 f44 | omega))) dX12_closes_65 (fun H locs hP hD hS => ?_)
      obtain ⟨V45, hV45⟩ : ∃ z, z = up2 V 74 (Int32.toNatClampNeg (V 0 73)) p0 := ⟨_, rfl⟩
      have hP : va_P D vwCl (mw ad kk ks.1 V45 L) H := by rw [hV45]; exact hP
      have hD : va_D A (mw ad kk ks.1 V45 L) := by rw [hV45]; exact hD
      have hMV45 : rgd bM V45 := hMV.put hV45 (i_full _)
      have agV45 : agr [(0, 60), (0, 65), (0, 68), (0, 69), (0, 73), (0, 76), (0, 90), (0, 91), (0, 92), (0, 93), (0, 95), (0, 96), (0, 98)] [59, 61, 62, 63, 64, 66, 67, 74, 75, 77, 78, 79, 80, 94, 97] V V45 := agV.up hV45 rfl
      refine lv_aload_n hx hb dX12_closes_66 rfl (lv_at hl 2 rfl) ?_
      refine va_get (D := D) (ci := 12) (v := .ref (ad 75)) (C := RX12) (T := TX12) (N := 100) hx hb hg inX12 hown hK hP 0 rfl rfl 75 (by decide) (hg _ w1781) (fun _ h9 => h9) rfl dX12_closes_67 ?_
      refine lv_aload_n hx hb dX12_closes_70 rfl (lv_at hl 2 rfl) ?_
      refine va_get (D := D) (ci := 12) (v := .int (V45 0 73)) (C := RX12) (T := TX12) (N := 100) hx hb hg inX12 hown hK hP 0 rfl rfl 73 (by decide) (hg _ w1779) (fun _ h9 => h9) rfl dX12_closes_71 ?_
      refine g_top (v := (V 0 73)) (up2_o hV45 (by decide)) ?_
      refine lv_iload_n hx hb dX12_closes_74 rfl (lv_at hl 0 rfl) ?_
      refine lv_if_ne (tgt := 82) hx hb dX12_closes_75 (by decide) (fun q => absurd rfl q) (fun _ => ?_)
      refine lv_iconst (v := 0) hx hb dX12_closes_78 (by decide) ?_
      refine lv_goto (tgt := 108) hx hb dX12_closes_79 (by decide) ?_
      refine va_iast (D := D) (i := (V 0 73)) (x := 0) hx hb hK hP hD hS 53 52 rfl rfl (i_in (a := ((V 0 73)).toInt) rfl (by (first | exact om_5b0e5b7d98b0 r4.1 f44 | omega))) dX12_closes_108 (fun H locs hP hD hS => ?_)
      obtain ⟨V46, hV46⟩ : ∃ z, z = up2 V45 75 (Int32.toNatClampNeg (V 0 73)) 0 := ⟨_, rfl⟩
      have hP : va_P D vwCl (mw ad kk ks.1 V46 L) H := by rw [hV46]; exact hP
      have hD : va_D A (mw ad kk ks.1 V46 L) := by rw [hV46]; exact hD
      have hMV46 : rgd bM V46 := hMV45.put hV46 (i_full _)
      have agV46 : agr [(0, 60), (0, 65), (0, 68), (0, 69), (0, 73), (0, 76), (0, 90), (0, 91), (0, 92), (0, 93), (0, 95), (0, 96), (0, 98)] [59, 61, 62, 63, 64, 66, 67, 74, 75, 77, 78, 79, 80, 94, 97] V V46 := agV45.up hV46 rfl
      refine lv_aload_n hx hb dX12_closes_109 rfl (lv_at hl 2 rfl) ?_
      refine lv_dup hx hb dX12_closes_110 rfl ?_
      refine va_get (D := D) (ci := 12) (v := .int (V46 0 73)) (C := RX12) (T := TX12) (N := 100) hx hb hg inX12 hown hK hP 0 rfl rfl 73 (by decide) (hg _ w1779) (fun _ h9 => h9) rfl dX12_closes_111 ?_
      refine g_top (v := (V 0 73)) ((up2_o hV46 (by decide)).trans (up2_o hV45 (by decide))) ?_
      refine lv_iconst (v := 1) hx hb dX12_closes_114 (by decide) ?_
      refine lv_iadd hx hb dX12_closes_115 ?_
      refine lv_topi (fun z47 ez47 => ?_)
      have hz47 : z47.toInt = ((V 0 73)).toInt + 1 := i_add ez47 rfl (by decide) (by (first | exact om_e89c2ae064a9 r4.1 f44 | omega))
      refine va_put (D := D) (ci := 12) (v := .int z47) (ty := tyX12 73) (C := RX12) (T := TX12) (N := 100) hx hb hg inX12 tyX12 tyX12_ok nmX12 hown hK hP hD hS 0 rfl rfl 73 (by decide) (hg _ w1779) (fun _ h9 => h9) rfl (tyX12_ok 73 (by decide)) rfl rfl (Nat.le_of_ble_eq_true rfl) dX12_closes_116 (fun H locs hP hD hS => ?_)
      obtain ⟨V48, hV48⟩ : ∃ z, z = up2 V46 0 73 z47 := ⟨_, rfl⟩
      have hP : va_P D vwCl (mw ad kk ks.1 V48 L) H := by rw [hV48]; exact hP
      have hD : va_D A (mw ad kk ks.1 V48 L) := by rw [hV48]; exact hD
      have hMV48 : rgd bM V48 := hMV46.put hV48 (show 0 ≤ z47.toInt ∧ z47.toInt ≤ 1000000 from by (first | exact om_388b44137c0f r4.1 f44 hz47 | omega))
      have agV48 : agr [(0, 60), (0, 65), (0, 68), (0, 69), (0, 73), (0, 76), (0, 90), (0, 91), (0, 92), (0, 93), (0, 95), (0, 96), (0, 98)] [59, 61, 62, 63, 64, 66, 67, 74, 75, 77, 78, 79, 80, 94, 97] V V48 := agV46.up hV48 rfl
      have fm49 : FRM V V48 (-1) := ((FRM.ag (show agr [(0, 73)] [74, 75] V V48 from (agr.up (agr.up (agr.up agr.rf hV45 rfl) hV46 rfl) hV48 rfl)) ⟨⟨rfl, fun _ => rfl, fun _ => rfl, fun _ => rfl, fun _ => rfl, fun _ => rfl, fun _ => rfl⟩, by decide, by decide, rfl, rfl, fun _ => rfl, fun _ => rfl, fun _ => rfl, fun _ => rfl, fun _ => rfl, fun _ => rfl⟩) : FRM V V48 (-1))
      have ko2 := i_clamp (x := p0) rfl (by (first | exact om_eafa9039069c rg_p0.1 | omega))
      have hst := (fm49.2.1 (Int32.toNatClampNeg p0) (by omega)).2.2.2 st1
      have rt50 : RT V48 := RT.ag rt hMV (show agr [(0, 73)] [74, 75] V V48 from (agr.up (agr.up (agr.up agr.rf hV45 rfl) hV46 rfl) hV48 rfl)) ⟨⟨rfl, fun _ => rfl, fun _ => rfl, fun _ => rfl, fun _ => rfl, fun _ => rfl, fun _ => rfl⟩, by decide, by decide, rfl, rfl, fun _ => rfl, fun _ => rfl, fun _ => rfl, fun _ => rfl, fun _ => rfl, fun _ => rfl⟩ (c0k.ag (show agr [(0, 73)] [74, 75] V V48 from (agr.up (agr.up (agr.up agr.rf hV45 rfl) hV46 rfl) hV48 rfl)) rfl)
      have hs2 : (V48 63 (Int32.toNatClampNeg p0)).toInt ≤ 2 := (hMV48 63 _).2
      refine lv_aload_n hx hb dX12_closes_119 rfl (lv_at hl 2 rfl) ?_
      refine va_get (D := D) (ci := 12) (v := .ref (ad 63)) (C := RX12) (T := TX12) (N := 100) hx hb hg inX12 hown hK hP 0 rfl rfl 63 (by decide) (hg _ w1769) (fun _ h9 => h9) rfl dX12_closes_120 ?_
      refine lv_iload_n hx hb dX12_closes_123 rfl (lv_at hl 3 rfl) ?_
      refine lv_iconst (v := 2) hx hb dX12_closes_124 (by decide) ?_
      refine va_iast (D := D) (i := p0) (x := 2) hx hb hK hP hD hS 48 47 rfl rfl (i_in (a := p0.toInt) rfl (by (first | exact om_375eda9ff8f1 rg_p0.1 rg_p0.2 | omega))) dX12_closes_125 (fun H locs hP hD hS => ?_)
      obtain ⟨V51, hV51⟩ : ∃ z, z = up2 V48 63 (Int32.toNatClampNeg p0) 2 := ⟨_, rfl⟩
      have hP : va_P D vwCl (mw ad kk ks.1 V51 L) H := by rw [hV51]; exact hP
      have hD : va_D A (mw ad kk ks.1 V51 L) := by rw [hV51]; exact hD
      have hMV51 : rgd bM V51 := hMV48.put hV51 (show 0 ≤ Int32.toInt 2 ∧ Int32.toInt 2 ≤ 2 from by decide)
      have agV51 : agr [(0, 60), (0, 65), (0, 68), (0, 69), (0, 73), (0, 76), (0, 90), (0, 91), (0, 92), (0, 93), (0, 95), (0, 96), (0, 98)] [59, 61, 62, 63, 64, 66, 67, 74, 75, 77, 78, 79, 80, 94, 97] V V51 := agV48.up hV51 rfl
      have nt52a := mV_nt1 (sg := 0) (t := gt) (k := gu) hV45 hV46 hV48 hV51 (by have h9 := i_clamp (x := (V 0 73)) rfl (by (first | exact om_eafa9039069c r4.1 | omega)); omega) (by omega) (by omega)
      have nt52 : mV V51 0 gt gu = mU (mNote (mV V 0 gt gu) go 0) 3 go.toNat 2 := nt52a.trans (by rw [show p0.toInt = go from zo9, show (Int32.toInt 0) = 0 from by decide, show Int32.toInt 2 = 2 from by decide, go9])
      have r53 : 0 ≤ (V 0 65).toInt := (hMV 0 65).1
      have r54 : (V 0 60).toInt ≤ 300 := (hMV 0 60).2
      have r55 : 0 ≤ (V 0 93).toInt ∧ (V 0 93).toInt ≤ 10 := hMV 0 93
      have ht56 : TRs gB (mV V 0 gt gu, ga, Fclo0 glv go gc gsc :: gr) (mV V51 1 gt gu, 0, gr) := TRs.st ht12 (SF.mk (show gr.length ≤ 394 from by (first | exact om_e163cc6f2f7b hl9 r7.2 | omega)) (show 0 + (totP gr) ≤ 2000 from by (first | exact om_2039720f7f75 hp9 r7.2 | omega)) (show 0 ≤ (V 0 65).toInt ∧ (V 0 65).toInt ≤ 300 from by (first | exact om_16d1a7c24be6 n1 r1.1 r2.2 | omega)) (fun h9 => absurd (show (0 : Int) = 2 from h9) (by decide)) trivial) ((st_17e bz9).trans ((cl_w (show ¬ (0 : Int) = 2 by decide) (show ¬ (0 : Int) = 3 by decide)).trans (by rw [← nt52]; exact mV_ans)))
      have rj57 : RJm V48 gB := RJm.ag rj (show agr [(0, 73)] [74, 75] V V48 from (agr.up (agr.up (agr.up agr.rf hV45 rfl) hV46 rfl) hV48 rfl)) (by decide)
      have rj58 : RJm V51 gB := RJm.st rj57 hV51 (by decide) (fun h9 => absurd h9 (by decide))
      refine lv_iload_n hx hb dX12_closes_126 rfl (lv_at hl 0 rfl) ?_
      refine lv_iconst (v := 2) hx hb dX12_closes_127 (by decide) ?_
      refine lv_icmp_ne (tgt := 135) hx hb dX12_closes_128 (by decide) (fun _ => ?_) (fun q => absurd q (by decide))
      refine lv_iconst (v := 0) hx hb dX12_closes_135 (by decide) ?_
      have pq59 : (V51 0 93).toInt = ((V 0 93)).toInt := congrArg Int32.toInt ((up2_o hV51 (by decide)).trans ((up2_k hV48 (by decide)).trans ((up2_o hV46 (by decide)).trans (up2_o hV45 (by decide)))))
      have pq60 : (V51 0 98).toInt = ((V 0 98)).toInt := congrArg Int32.toInt ((up2_o hV51 (by decide)).trans ((up2_k hV48 (by decide)).trans ((up2_o hV46 (by decide)).trans (up2_o hV45 (by decide)))))
      have pq61 : (V51 0 60).toInt = ((V 0 60)).toInt := congrArg Int32.toInt ((up2_o hV51 (by decide)).trans ((up2_k hV48 (by decide)).trans ((up2_o hV46 (by decide)).trans (up2_o hV45 (by decide)))))
      have pq62 : (V51 0 65).toInt = ((V 0 65)).toInt := congrArg Int32.toInt ((up2_o hV51 (by decide)).trans ((up2_k hV48 (by decide)).trans ((up2_o hV46 (by decide)).trans (up2_o hV45 (by decide)))))
      have pq63 : (V51 0 73).toInt = z47.toInt := congrArg Int32.toInt ((up2_o hV51 (by decide)).trans (up2_s hV48))
      have pq64 : (V51 0 95).toInt = ((V 0 95)).toInt := congrArg Int32.toInt ((up2_o hV51 (by decide)).trans ((up2_k hV48 (by decide)).trans ((up2_o hV46 (by decide)).trans (up2_o hV45 (by decide)))))
      have pq65 : (V51 0 69).toInt = ((V 0 69)).toInt := congrArg Int32.toInt ((up2_o hV51 (by decide)).trans ((up2_k hV48 (by decide)).trans ((up2_o hV46 (by decide)).trans (up2_o hV45 (by decide)))))
      have pq66 : (V51 0 76).toInt = ((V 0 76)).toInt := congrArg Int32.toInt ((up2_o hV51 (by decide)).trans ((up2_k hV48 (by decide)).trans ((up2_o hV46 (by decide)).trans (up2_o hV45 (by decide)))))
      have pq67 : (V51 63 (Int32.toNatClampNeg p0)).toInt = 2 := (congrArg Int32.toInt (up2_s hV51)).trans (by decide)
      have pq68 : (V48 0 95).toInt = ((V 0 95)).toInt := congrArg Int32.toInt ((up2_k hV48 (by decide)).trans ((up2_o hV46 (by decide)).trans (up2_o hV45 (by decide))))
      have pk69 : PLK V V51 (V 0 98).toInt.toNat := (PLK.tr (PLK.rf : PLK V V (V 0 98).toInt.toNat) (PLK.ag (t := (V 0 98).toInt.toNat) (show agr [(0, 73)] [63, 74, 75] V V51 from (agr.up (agr.up (agr.up (agr.up agr.rf hV45 rfl) hV46 rfl) hV48 rfl) hV51 rfl)) (fun _ => rfl)) (Nat.le_refl _))
      have rp70 : DCl gB (mV V 0 gt gu, ga, Fclo0 glv go gc gsc :: gr) V51 gr (0) := ⟨1, gt, gu, 0, ht56, (fun h9 => absurd h9 (by decide)), (fun h9 => (by decide)), (fun h9 => absurd h9 (by decide))⟩
      exact W.zret (v := 0) hx hb hr rfl (fun t ht hW => ⟨⟨0, (V51, L), rfl, ⟨hMV51, agV51, rfl, (by decide), (show (V51 0 93).toInt = (V 0 93).toInt from by (first | exact om_570b691c1130 pq59 | omega)), (show (V51 0 98).toInt = (V 0 98).toInt from by (first | exact om_570b691c1130 pq60 | omega)), (show (V 0 60).toInt ≤ (V51 0 60).toInt from by (first | exact om_abdc88b0c8fc pq61 | omega)), (show (V 0 65).toInt ≤ (V51 0 65).toInt from by (first | exact om_abdc88b0c8fc pq62 | omega)), (show (V51 0 65).toInt - (V 0 65).toInt ≤ (V51 0 60).toInt - (V 0 60).toInt from by (first | exact om_3cbf875a340a pq61 pq62 | omega)), (show (V51 0 73).toInt + (V51 0 95).toInt - (V51 0 65).toInt ≤ (V 0 73).toInt + (V 0 95).toInt - (V 0 65).toInt + 1 from by (first | exact om_e85f0a785578 hz47 pq62 pq63 pq64 | omega)), (show (V 0 73).toInt ≤ (V51 0 73).toInt from by (first | exact om_590e33a4cd4f hz47 pq63 | omega)), (show (V 0 69).toInt ≤ (V51 0 69).toInt from by (first | exact om_abdc88b0c8fc pq65 | omega)), (show (V51 0 95).toInt = (V 0 95).toInt from by (first | exact om_570b691c1130 pq64 | omega)), (show (V51 0 76).toInt - (V51 0 69).toInt - (V51 0 73).toInt ≤ (V 0 76).toInt - (V 0 69).toInt - (V 0 73).toInt from by (first | exact om_1ce9b0d19885 hz47 pq63 pq65 pq66 | omega)), (show (V51 63 (Int32.toNatClampNeg p0)).toInt = 2 from by (first | exact om_6aa5e6f8c558 pq67 | omega)), (RT.state rt50 hMV48 hV51 (by decide)), (FRM.tr fm49 (FRM.state hV51 (Or.inr ⟨by omega, by show _ ≤ (2 : Int32).toInt; have h9 : (2 : Int32).toInt = 2 := (by decide); omega⟩)) agV48 ⟨rfl, fun _ => rfl, fun _ => rfl, fun _ => rfl, fun _ => rfl, fun _ => rfl, fun _ => rfl⟩ (by (first | exact om_abdc88b0c8fc pq68 | omega))), rj58, pk69, rp70⟩, by rw [ht]; exact hP, va_K.moved hW.alike hK, hD⟩, hS.F ht⟩) hS.2.2 dX12_closes_136
  · skip
    have f71 : 0 ≤ ((V 33 (Int32.toNatClampNeg z15))).toInt := b_nlt rfl (by decide) c16
    have cs8 := cs9.2 (by omega)
    have bz9 := cs8.1
    have bz8 := cs8.2
    refine lv_aload_n hx hb dX12_closes_26 rfl (lv_at hl 2 rfl) ?_
    refine lv_aload_n hx hb dX12_closes_27 rfl (lv_at hl 2 rfl) ?_
    refine va_get (D := D) (ci := 12) (v := .ref (ad 33)) (C := RX12) (T := TX12) (N := 100) hx hb hg inX12 hown hK hP 0 rfl rfl 33 (by decide) (hg _ w1739) (fun _ h9 => h9) rfl dX12_closes_28 ?_
    refine lv_iload_n hx hb dX12_closes_31 rfl (lv_at hl 1 rfl) ?_
    refine va_iald (D := D) (i := z15) hx hb hK hP 26 25 rfl rfl (i_in (a := z15.toInt) rfl (by (first | exact om_cf341bf82a51 r10.1 r10.2 r13.1 r13.2 hz14 hz15 | omega))) dX12_closes_32 ?_
    have ko := i_clamp (x := p0) rfl (by (first | exact om_eafa9039069c rg_p0.1 | omega))
    have kn : (nwh V : Int) = (V 0 11).toInt := i_clamp (x := V 0 11) rfl (by have h9 : 0 ≤ (V 0 11).toInt ∧ (V 0 11).toInt ≤ 1 := hMV 0 11; omega)
    have hO := rt.2.2.1 (Int32.toNatClampNeg p0) (by omega)
    have cok := TB.compE rt.1 hO
    have r61 : 0 ≤ (V 61 (Int32.toNatClampNeg p0)).toInt ∧ (V 61 (Int32.toNatClampNeg p0)).toInt ≤ 23 := hMV 61 _
    have k61 := i_clamp (x := V 61 (Int32.toNatClampNeg p0)) rfl r61.1
    have nb : (nwh V : Int) ≤ 1 := by have h9 : 0 ≤ (V 0 11).toInt ∧ (V 0 11).toInt ≤ 1 := hMV 0 11; omega
    have kz : Int32.toNatClampNeg z15 = 24 * nwh V + Int32.toNatClampNeg (V 61 (Int32.toNatClampNeg p0)) := by have h9 := i_clamp (x := z15) rfl (by (first | exact om_11587583f9f8 r10.1 r13.1 hz14 hz15 | omega)); (first | exact om_820ee80118a3 kz9 | omega)
    have q33 : V 33 (24 * nwh V + Int32.toNatClampNeg (V 61 (Int32.toNatClampNeg p0))) = V 33 (Int32.toNatClampNeg z15) := by rw [kz]
    have ce := cok.2.1
    rw [q33] at ce
    have ce2 := ce (by omega)
    have cl := ce2.lt
    refine lv_iload_n hx hb dX12_closes_33 rfl (lv_at hl 3 rfl) ?_
    refine lv_aload_n hx hb dX12_closes_34 rfl (lv_at hl 2 rfl) ?_
    refine va_get (D := D) (ci := 12) (v := .ref (ad 62)) (C := RX12) (T := TX12) (N := 100) hx hb hg inX12 hown hK hP 0 rfl rfl 62 (by decide) (hg _ w1768) (fun _ h9 => h9) rfl dX12_closes_35 ?_
    refine lv_iload_n hx hb dX12_closes_38 rfl (lv_at hl 3 rfl) ?_
    refine va_iald (D := D) (i := p0) hx hb hK hP 47 46 rfl rfl (i_in (a := p0.toInt) rfl (by (first | exact om_375eda9ff8f1 rg_p0.1 rg_p0.2 | omega))) dX12_closes_39 ?_
    refine lv_iconst (v := 0) hx hb dX12_closes_40 (by decide) ?_
    refine lv_iconst (v := (-1)) hx hb dX12_closes_41 (by decide) ?_
    have r72 : 0 ≤ (V 0 65).toInt := (hMV 0 65).1
    have r73 : (V 0 60).toInt ≤ 300 := (hMV 0 60).2
    have r74 : 0 ≤ (V 0 93).toInt ∧ (V 0 93).toInt ≤ 10 := hMV 0 93
    have ht75 : TRs gB (mV V 0 gt gu, ga, Fclo0 glv go gc gsc :: gr) (mV V 0 gt gu, ga, Fwork glv go gc gsc 0 0 ((bE gB gc.toNat 31 - 1 : Nat) : Int) 0 [] :: Fclo1 glv go gc gsc :: gr) := TRs.st ht12 (SF.mk (show gr.length ≤ 394 from by (first | exact om_e163cc6f2f7b hl9 r7.2 | omega)) (show 0 + (totP gr) ≤ 2000 from by (first | exact om_2039720f7f75 hp9 r7.2 | omega)) (show 0 ≤ (V 0 65).toInt ∧ (V 0 65).toInt ≤ 300 from by (first | exact om_16d1a7c24be6 n1 r1.1 r2.2 | omega)) (fun h9 => absurd (show (0 : Int) = 2 from h9) (by decide)) trivial) ((st_17w bz9).trans mV_go)
    have lg76 : (Fclo1 glv go gc gsc :: gr).length = gr.length + 1 := rfl
    have lg77 : totP (Fclo1 glv go gc gsc :: gr) = 0 + (totP gr) := rfl
    have oq8 : ∃ q9, OQ gB (ndW gB gc 0) (decide ((0 : Int) < 0)) (bE gB gc.toNat 31 - 1) 0 q9 := ⟨0, wfS (br.1.1 _ _ bz9)⟩
    have r78 : Int32.toInt 0 = 0 := by decide
    have r79 : Int32.toInt (-1) = (-1) := by decide
    refine gA_int (gA_runV (As := [.int (V 33 (Int32.toNatClampNeg z15)), .int p0, .int (V 62 (Int32.toNatClampNeg p0)), .int 0, .int (-1)]) (rest := []) (ci := 12) (q0 := 0) hx hb hml hown hg hP hD hK hS hA hnw hgk (hk_s_worksD H.size ad kk V L (V 33 (Int32.toNatClampNeg z15)) p0 (V 62 (Int32.toNatClampNeg p0)) 0 (-1) (gB) (grk) (Fclo1 glv go gc gsc :: gr) (ga) (0) (gt) (gu) (glv) (go) (gc) (gsc) (0) ((V 27 (24 * nwh V + Int32.toNatClampNeg (V 61 (Int32.toNatClampNeg p0)))).toInt) (10000 * nwh V) (10000 * nwh V + 10000) ((bE gB gc.toNat 31 - 1)) hMV (by omega) (by (first | exact om_cb67e99158ac rg_p0.1 rg_p0.2 | omega)) (by (first | exact om_13ba01c174fe r11.1 r11.2 | omega)) rt (show (V 0 65).toInt ≤ (V 0 60).toInt from by (first | exact om_f4906d00fa52 n1 | omega)) (show (V 0 95).toInt ≤ (V 0 65).toInt from by (first | exact om_f4906d00fa52 n2 | omega)) (show (V 0 73).toInt + (V 0 95).toInt - (V 0 65).toInt ≤ 999000 from by (first | exact om_947a8f2a0e3a n3 | omega)) (show (V 0 76).toInt - (V 0 69).toInt - (V 0 73).toInt ≤ 1000000001 from by (first | exact om_e413d522cf5b n4 | omega)) (show 300 - (V 0 60).toInt ≤ ((d1 : Nat) : Int) from by (first | exact om_a00d5de16f2e n5 | omega)) (show 10 - (V 0 93).toInt ≤ ((d2 : Nat) : Int) from by (first | exact om_e2c7f9016405 n6 | omega)) bk br rj (fun h9 => absurd h9 (by decide)) (show (((Fclo1 glv go gc gsc :: gr).length : Nat) : Int) ≤ 28 * (V 0 93).toInt + 26 from by (first | exact om_01a288229520 hl9 lg76 | omega)) (show ((totP (Fclo1 glv go gc gsc :: gr) : Nat) : Int) ≤ 84 * (V 0 93).toInt + 56 from by (first | exact om_38683338768e hp9 lg77 | omega)) (show p0.toInt < (V 0 60).toInt from by (first | exact om_0e9116797efb oq1 | omega)) (show (V 0 98).toInt + 400 * ((d2 : Nat) : Int) + 30 ≤ 19000 from by (first | exact om_dbdb2869bf85 n7 | omega)) ce2 (show ((10000 * nwh V + 10000) : Int) ≤ 20000 from by (first | exact om_43104e6d7ef4 nb | omega)) (Int.le_refl _) (show ((10000 * nwh V) : Int) = 10000 * ((nwh V : Nat) : Int) from by (first | exact om_f5de5c24eabd | omega)) (show ((V 33 (Int32.toNatClampNeg z15))).toInt = ((10000 * nwh V + ((bE gB gc.toNat 31 - 1)) : Nat) : Int) from by omega) oq8 (show (V 0 93).toInt = (glv) from by (first | exact om_570b691c1130 zl9 | omega)) (show p0.toInt = (go) from by (first | exact om_570b691c1130 zo9 | omega)) (show (V 61 (Int32.toNatClampNeg p0)).toInt = (gc) from by (first | exact om_570b691c1130 zc9 | omega)) (show ((V 62 (Int32.toNatClampNeg p0))).toInt = (gsc) from by (first | exact om_570b691c1130 zs9 | omega)) cm9) w2268 w2270 w136 w172 w2271 rfl rfl hdV_yX12_works ⟨(by show (4 * (d1) + 40 * (d2) + 12) + 1 ≤ (4 * d1 + 40 * d2 + 13); (first | exact om_2f192a0d189d | omega)), (by show 8 + (6 + 11) + (100 * (d1) + 1000 * (d2) + 460) ≤ (100 * d1 + 1000 * d2 + 500); (first | exact om_65a772b3cf36 | omega))⟩ rfl hl.1 rfl (Nat.le_of_ble_eq_true rfl) dX12_closes_42 ⟨Nat.le_of_ble_eq_true rfl, Nat.le_of_ble_eq_true rfl⟩) hP hD hK hS hA (fun z80 u81 H locs w82 hP hD hK hS => ?_)
    obtain ⟨V99, L100⟩ := u81
    obtain ⟨hMV99, ajV99, axL100, rgz80, t83, t84, t85, t86, t87, t88, t89, t90, t91, t92, t93, t94, t95, t96, t97, t98⟩ := w82
    have axL100 : L = L100 := Eq.symm axL100
    subst axL100
    have hP : va_P D vwCl (mw ad kk ks.1 V99 L) H := hP
    have hD : va_D A (mw ad kk ks.1 V99 L) := hD
    have hMV99 : rgd bM V99 := hMV99
    have ajV99 : agr [(0, 60), (0, 65), (0, 68), (0, 69), (0, 73), (0, 76), (0, 90), (0, 91), (0, 92), (0, 93), (0, 95), (0, 96), (0, 98)] [59, 61, 62, 63, 64, 66, 67, 74, 75, 77, 78, 79, 80, 94, 97] V V99 := ajV99
    have agV99 : agr [(0, 60), (0, 65), (0, 68), (0, 69), (0, 73), (0, 76), (0, 90), (0, 91), (0, 92), (0, 93), (0, 95), (0, 96), (0, 98)] [59, 61, 62, 63, 64, 66, 67, 74, 75, 77, 78, 79, 80, 94, 97] V V99 := agV.tr ajV99 (by decide) (by decide)
    have rgz80 : 0 ≤ z80.toInt ∧ z80.toInt ≤ 2 := rgz80
    have t83 : (V99 0 93).toInt = (V 0 93).toInt := t83
    have t84 : (V99 0 98).toInt = (V 0 98).toInt := t84
    have t85 : (V 0 60).toInt ≤ (V99 0 60).toInt := t85
    have t86 : (V 0 65).toInt ≤ (V99 0 65).toInt := t86
    have t87 : (V99 0 65).toInt - (V 0 65).toInt ≤ (V99 0 60).toInt - (V 0 60).toInt := t87
    have t88 : (V99 0 73).toInt + (V99 0 95).toInt - (V99 0 65).toInt ≤ (V 0 73).toInt + (V 0 95).toInt - (V 0 65).toInt := t88
    have t89 : (V 0 73).toInt ≤ (V99 0 73).toInt := t89
    have t90 : (V 0 69).toInt ≤ (V99 0 69).toInt := t90
    have t91 : (V99 0 95).toInt = (V 0 95).toInt := t91
    have t92 : (V99 0 76).toInt - (V99 0 69).toInt - (V99 0 73).toInt ≤ (V 0 76).toInt - (V 0 69).toInt - (V 0 73).toInt := t92
    have t93 : Imp (z80.toInt ≠ 2) ((V99 0 76).toInt - (V99 0 69).toInt - (V99 0 73).toInt + 1 ≤ (V 0 76).toInt - (V 0 69).toInt - (V 0 73).toInt) := t93
    have t94 : RT V99 := t94
    have t95 : FRM V V99 (-1) := t95
    have t96 : RJm V99 (gB) := t96
    have t97 : PLK V V99 (V 0 98).toInt.toNat := t97
    have t98 : DPc (gB) (mV V 0 (gt) (gu), (ga), Fwork (glv) (go) (gc) (gsc) (0) 0 ((((bE gB gc.toNat 31 - 1)) : Nat) : Int) 0 [] :: (Fclo1 glv go gc gsc :: gr)) V99 (Fclo1 glv go gc gsc :: gr) z80.toInt (V99 0 96) (24 * (10 - (V 0 93).toInt)) := t98
    have r101 : 0 ≤ ((V99 0 93)).toInt ∧ ((V99 0 93)).toInt ≤ 10 := hMV99 0 93
    have r102 : 0 ≤ ((V99 0 98)).toInt ∧ ((V99 0 98)).toInt ≤ 20000 := hMV99 0 98
    have r103 : 0 ≤ ((V99 0 60)).toInt ∧ ((V99 0 60)).toInt ≤ 300 := hMV99 0 60
    have r104 : 0 ≤ ((V99 0 65)).toInt ∧ ((V99 0 65)).toInt ≤ 1000000 := hMV99 0 65
    have r105 : 0 ≤ ((V99 0 73)).toInt ∧ ((V99 0 73)).toInt ≤ 1000000 := hMV99 0 73
    have r106 : 0 ≤ ((V99 0 95)).toInt ∧ ((V99 0 95)).toInt ≤ 300 := hMV99 0 95
    have r107 : 0 ≤ ((V99 0 69)).toInt ∧ ((V99 0 69)).toInt ≤ 3000 := hMV99 0 69
    have r108 : 0 ≤ ((V99 0 76)).toInt ∧ ((V99 0 76)).toInt ≤ 2000000000 := hMV99 0 76
    refine lv_istore_n (lv' := [(3, .int z80), (2, .int z15), (0, .ref (ad 0)), (1, .int p0)]) hx hb dX12_closes_45 rfl hl (by decide) rfl (fun ls hl => ?_)
    have dp109 := t98
    rcases (show z80.toInt = 0 ∨ z80.toInt = 1 ∨ z80.toInt = 2 from by (first | exact om_e837ad917e1d rgz80.1 rgz80.2 | omega)) with q110 | q110 | q110
    · skip
      obtain ⟨mt113, mk114, ht111⟩ := dp109.e0 q110
      have ht115 : TRs gB (mV V 0 gt gu, ga, Fclo0 glv go gc gsc :: gr) (mV V99 1 mt113 mk114, ((V99 0 96)), Fclo1 glv go gc gsc :: gr) := TRs.tr ht75 ht111
      refine lv_aload_n hx hb dX12_closes_46 rfl (lv_at hl 2 rfl) ?_
      refine va_get (D := D) (ci := 12) (v := .int (V99 0 73)) (C := RX12) (T := TX12) (N := 100) hx hb hg inX12 hown hK hP 0 rfl rfl 73 (by decide) (hg _ w1779) (fun _ h9 => h9) rfl dX12_closes_47 ?_
      refine lv_sipush (v := 300) hx hb dX12_closes_50 (by decide) ?_
      refine lv_icmp_ge (tgt := 109) hx hb dX12_closes_53 (by decide) (fun c116 => ?_) (fun c116 => ?_)
      · skip
        have f117 : 300 ≤ ((V99 0 73)).toInt := b_le (by decide) rfl c116
        refine lv_aload_n hx hb dX12_closes_109 rfl (lv_at hl 2 rfl) ?_
        refine lv_dup hx hb dX12_closes_110 rfl ?_
        refine va_get (D := D) (ci := 12) (v := .int (V99 0 73)) (C := RX12) (T := TX12) (N := 100) hx hb hg inX12 hown hK hP 0 rfl rfl 73 (by decide) (hg _ w1779) (fun _ h9 => h9) rfl dX12_closes_111 ?_
        refine lv_iconst (v := 1) hx hb dX12_closes_114 (by decide) ?_
        refine lv_iadd hx hb dX12_closes_115 ?_
        refine lv_topi (fun z118 ez118 => ?_)
        have hz118 : z118.toInt = ((V99 0 73)).toInt + 1 := i_add ez118 rfl (by decide) (by (first | exact om_67ffdf78dff2 n1 n3 r3.1 t87 t88 t91 r103.2 f117 | omega))
        refine va_put (D := D) (ci := 12) (v := .int z118) (ty := tyX12 73) (C := RX12) (T := TX12) (N := 100) hx hb hg inX12 tyX12 tyX12_ok nmX12 hown hK hP hD hS 0 rfl rfl 73 (by decide) (hg _ w1779) (fun _ h9 => h9) rfl (tyX12_ok 73 (by decide)) rfl rfl (Nat.le_of_ble_eq_true rfl) dX12_closes_116 (fun H locs hP hD hS => ?_)
        obtain ⟨V119, hV119⟩ : ∃ z, z = up2 V99 0 73 z118 := ⟨_, rfl⟩
        have hP : va_P D vwCl (mw ad kk ks.1 V119 L) H := by rw [hV119]; exact hP
        have hD : va_D A (mw ad kk ks.1 V119 L) := by rw [hV119]; exact hD
        have hMV119 : rgd bM V119 := hMV99.put hV119 (show 0 ≤ z118.toInt ∧ z118.toInt ≤ 1000000 from by first | exact om_19587af08997 n1 n3 r3.1 t87 t88 t91 r103.2 f117 hz118 | first | omega | ((try (have i_t93 := Imp.go t93 (by omega))); omega))
        have agV119 : agr [(0, 60), (0, 65), (0, 68), (0, 69), (0, 73), (0, 76), (0, 90), (0, 91), (0, 92), (0, 93), (0, 95), (0, 96), (0, 98)] [59, 61, 62, 63, 64, 66, 67, 74, 75, 77, 78, 79, 80, 94, 97] V V119 := agV99.up hV119 rfl
        have fm120 : FRM V V99 (-1) := (t95 : FRM V V99 (-1))
        have fm121 : FRM V V119 (-1) := (FRM.tr fm120 (FRM.ag (show agr [(0, 73)] [] V99 V119 from (agr.up agr.rf hV119 rfl)) ⟨⟨rfl, fun _ => rfl, fun _ => rfl, fun _ => rfl, fun _ => rfl, fun _ => rfl, fun _ => rfl⟩, by decide, by decide, rfl, rfl, fun _ => rfl, fun _ => rfl, fun _ => rfl, fun _ => rfl, fun _ => rfl, fun _ => rfl⟩) agV99 ⟨rfl, fun _ => rfl, fun _ => rfl, fun _ => rfl, fun _ => rfl, fun _ => rfl, fun _ => rfl⟩ (by (first | exact om_abdc88b0c8fc t91 | omega)))
        have ko2 := i_clamp (x := p0) rfl (by (first | exact om_eafa9039069c rg_p0.1 | omega))
        have hst := (fm121.2.1 (Int32.toNatClampNeg p0) (by omega)).2.2.2 st1
        have rt122 : RT V119 := RT.ag t94 hMV99 (show agr [(0, 73)] [] V99 V119 from (agr.up agr.rf hV119 rfl)) ⟨⟨rfl, fun _ => rfl, fun _ => rfl, fun _ => rfl, fun _ => rfl, fun _ => rfl, fun _ => rfl⟩, by decide, by decide, rfl, rfl, fun _ => rfl, fun _ => rfl, fun _ => rfl, fun _ => rfl, fun _ => rfl, fun _ => rfl⟩ (c0k.ag (show agr [(0, 73)] [] V99 V119 from (agr.up agr.rf hV119 rfl)) rfl)
        have hs2 : (V119 63 (Int32.toNatClampNeg p0)).toInt ≤ 2 := (hMV119 63 _).2
        refine lv_aload_n hx hb dX12_closes_119 rfl (lv_at hl 2 rfl) ?_
        refine va_get (D := D) (ci := 12) (v := .ref (ad 63)) (C := RX12) (T := TX12) (N := 100) hx hb hg inX12 hown hK hP 0 rfl rfl 63 (by decide) (hg _ w1769) (fun _ h9 => h9) rfl dX12_closes_120 ?_
        refine lv_iload_n hx hb dX12_closes_123 rfl (lv_at hl 3 rfl) ?_
        refine lv_iconst (v := 2) hx hb dX12_closes_124 (by decide) ?_
        refine va_iast (D := D) (i := p0) (x := 2) hx hb hK hP hD hS 48 47 rfl rfl (i_in (a := p0.toInt) rfl (by first | exact om_1f9dd9896436 rg_p0.1 oq1 r2.2 | first | omega | ((try (have i_t93 := Imp.go t93 (by omega))); omega))) dX12_closes_125 (fun H locs hP hD hS => ?_)
        obtain ⟨V123, hV123⟩ : ∃ z, z = up2 V119 63 (Int32.toNatClampNeg p0) 2 := ⟨_, rfl⟩
        have hP : va_P D vwCl (mw ad kk ks.1 V123 L) H := by rw [hV123]; exact hP
        have hD : va_D A (mw ad kk ks.1 V123 L) := by rw [hV123]; exact hD
        have hMV123 : rgd bM V123 := hMV119.put hV123 (show 0 ≤ Int32.toInt 2 ∧ Int32.toInt 2 ≤ 2 from by decide)
        have agV123 : agr [(0, 60), (0, 65), (0, 68), (0, 69), (0, 73), (0, 76), (0, 90), (0, 91), (0, 92), (0, 93), (0, 95), (0, 96), (0, 98)] [59, 61, 62, 63, 64, 66, 67, 74, 75, 77, 78, 79, 80, 94, 97] V V123 := agV119.up hV123 rfl
        have nt124 : mV V123 1 mt113 mk114 = mU (mNote (mV V99 1 mt113 mk114) go 0) 3 go.toNat 2 := (mV_nt0 (x := go) (y := 0) hV119 hV123 (by omega) (by omega)).trans (by rw [show Int32.toInt 2 = 2 from by decide, go9])
        have r125 : 0 ≤ (V99 0 65).toInt := (hMV99 0 65).1
        have r126 : (V99 0 60).toInt ≤ 300 := (hMV99 0 60).2
        have r127 : 0 ≤ (V99 0 93).toInt ∧ (V99 0 93).toInt ≤ 10 := hMV99 0 93
        have ht128 : TRs gB (mV V 0 gt gu, ga, Fclo0 glv go gc gsc :: gr) (mV V123 1 mt113 mk114, 0, gr) := TRs.st ht115 (SF.mk (show gr.length ≤ 394 from by (first | exact om_e163cc6f2f7b hl9 r7.2 | omega)) (show 0 + (totP gr) ≤ 2000 from by (first | exact om_2039720f7f75 hp9 r7.2 | omega)) (show 0 ≤ (V99 0 65).toInt ∧ (V99 0 65).toInt ≤ 300 from by (first | exact om_65732a9e84ef n1 t87 r103.2 r104.1 | omega)) (fun h9 => absurd (show (1 : Int) = 2 from h9) (by decide)) trivial) (st_18.trans ((cl_w (show ¬ (1 : Int) = 2 by decide) (show ¬ (1 : Int) = 3 by decide)).trans (by rw [← nt124]; exact mV_ans)))
        have rj129 : RJm V119 gB := RJm.ag t96 (show agr [(0, 73)] [] V99 V119 from (agr.up agr.rf hV119 rfl)) (by decide)
        have rj130 : RJm V123 gB := RJm.st rj129 hV123 (by decide) (fun h9 => absurd h9 (by decide))
        refine lv_iload_n hx hb dX12_closes_126 rfl (lv_at hl 0 rfl) ?_
        refine lv_iconst (v := 2) hx hb dX12_closes_127 (by decide) ?_
        refine lv_icmp_ne (tgt := 135) hx hb dX12_closes_128 (by decide) (fun c131 => ?_) (fun c131 => ?_)
        · skip
          have f132 : z80.toInt ≠ 2 := b_neq rfl (by decide) c131
          refine lv_iconst (v := 0) hx hb dX12_closes_135 (by decide) ?_
          have pq133 : (V123 0 93).toInt = ((V99 0 93)).toInt := congrArg Int32.toInt ((up2_o hV123 (by decide)).trans (up2_k hV119 (by decide)))
          have pq134 : (V123 0 98).toInt = ((V99 0 98)).toInt := congrArg Int32.toInt ((up2_o hV123 (by decide)).trans (up2_k hV119 (by decide)))
          have pq135 : (V123 0 60).toInt = ((V99 0 60)).toInt := congrArg Int32.toInt ((up2_o hV123 (by decide)).trans (up2_k hV119 (by decide)))
          have pq136 : (V123 0 65).toInt = ((V99 0 65)).toInt := congrArg Int32.toInt ((up2_o hV123 (by decide)).trans (up2_k hV119 (by decide)))
          have pq137 : (V123 0 73).toInt = z118.toInt := congrArg Int32.toInt ((up2_o hV123 (by decide)).trans (up2_s hV119))
          have pq138 : (V123 0 95).toInt = ((V99 0 95)).toInt := congrArg Int32.toInt ((up2_o hV123 (by decide)).trans (up2_k hV119 (by decide)))
          have pq139 : (V123 0 69).toInt = ((V99 0 69)).toInt := congrArg Int32.toInt ((up2_o hV123 (by decide)).trans (up2_k hV119 (by decide)))
          have pq140 : (V123 0 76).toInt = ((V99 0 76)).toInt := congrArg Int32.toInt ((up2_o hV123 (by decide)).trans (up2_k hV119 (by decide)))
          have pq141 : (V123 63 (Int32.toNatClampNeg p0)).toInt = 2 := (congrArg Int32.toInt (up2_s hV123)).trans (by decide)
          have pq142 : (V119 0 95).toInt = ((V99 0 95)).toInt := congrArg Int32.toInt (up2_k hV119 (by decide))
          have pk143 : PLK V V99 (V 0 98).toInt.toNat := (PLK.tr (PLK.rf : PLK V V (V 0 98).toInt.toNat) t97 (by (first | exact om_2b97926ac273 | omega)))
          have pk144 : PLK V V123 (V 0 98).toInt.toNat := (PLK.tr pk143 (PLK.ag (t := (V 0 98).toInt.toNat) (show agr [(0, 73)] [63] V99 V123 from (agr.up (agr.up agr.rf hV119 rfl) hV123 rfl)) (fun _ => rfl)) (Nat.le_refl _))
          have rp145 : DCl gB (mV V 0 gt gu, ga, Fclo0 glv go gc gsc :: gr) V123 gr (0) := ⟨1, mt113, mk114, 0, ht128, (fun h9 => absurd h9 (by decide)), (fun h9 => (by decide)), (fun h9 => absurd h9 (by decide))⟩
          exact W.zret (v := 0) hx hb hr rfl (fun t ht hW => ⟨⟨0, (V123, L), rfl, ⟨hMV123, agV123, rfl, (by decide), (show (V123 0 93).toInt = (V 0 93).toInt from by first | exact om_cd7d0a6a31bc t83 pq133 | first | omega | ((try (have i_t93 := Imp.go t93 (by omega))); omega)), (show (V123 0 98).toInt = (V 0 98).toInt from by first | exact om_cd7d0a6a31bc t84 pq134 | first | omega | ((try (have i_t93 := Imp.go t93 (by omega))); omega)), (show (V 0 60).toInt ≤ (V123 0 60).toInt from by first | exact om_a40cdd94799e t85 pq135 | first | omega | ((try (have i_t93 := Imp.go t93 (by omega))); omega)), (show (V 0 65).toInt ≤ (V123 0 65).toInt from by first | exact om_a40cdd94799e t86 pq136 | first | omega | ((try (have i_t93 := Imp.go t93 (by omega))); omega)), (show (V123 0 65).toInt - (V 0 65).toInt ≤ (V123 0 60).toInt - (V 0 60).toInt from by first | exact om_953d7b5213d2 t87 pq135 pq136 | first | omega | ((try (have i_t93 := Imp.go t93 (by omega))); omega)), (show (V123 0 73).toInt + (V123 0 95).toInt - (V123 0 65).toInt ≤ (V 0 73).toInt + (V 0 95).toInt - (V 0 65).toInt + 1 from by first | exact om_42de5d558cf5 t88 hz118 pq136 pq137 pq138 | first | omega | ((try (have i_t93 := Imp.go t93 (by omega))); omega)), (show (V 0 73).toInt ≤ (V123 0 73).toInt from by first | exact om_ee53cb890411 t89 hz118 pq137 | first | omega | ((try (have i_t93 := Imp.go t93 (by omega))); omega)), (show (V 0 69).toInt ≤ (V123 0 69).toInt from by first | exact om_a40cdd94799e t90 pq139 | first | omega | ((try (have i_t93 := Imp.go t93 (by omega))); omega)), (show (V123 0 95).toInt = (V 0 95).toInt from by first | exact om_cd7d0a6a31bc t91 pq138 | first | omega | ((try (have i_t93 := Imp.go t93 (by omega))); omega)), (show (V123 0 76).toInt - (V123 0 69).toInt - (V123 0 73).toInt ≤ (V 0 76).toInt - (V 0 69).toInt - (V 0 73).toInt from by first | exact om_7ae002312ece hz118 pq137 pq139 pq140 ((Imp.go t93 (f132))) | first | omega | ((try (have i_t93 := Imp.go t93 (by omega))); omega)), (show (V123 63 (Int32.toNatClampNeg p0)).toInt = 2 from by first | exact om_6aa5e6f8c558 pq141 | first | omega | ((try (have i_t93 := Imp.go t93 (by omega))); omega)), (RT.state rt122 hMV119 hV123 (by decide)), (FRM.tr fm121 (FRM.state hV123 (Or.inr ⟨by omega, by show _ ≤ (2 : Int32).toInt; have h9 : (2 : Int32).toInt = 2 := (by decide); omega⟩)) agV119 ⟨rfl, fun _ => rfl, fun _ => rfl, fun _ => rfl, fun _ => rfl, fun _ => rfl, fun _ => rfl⟩ (by (first | exact om_4052a1005a1f t91 pq142 | omega))), rj130, pk144, rp145⟩, by rw [ht]; exact hP, va_K.moved hW.alike hK, hD⟩, hS.F ht⟩) hS.2.2 dX12_closes_136
        · skip
          have f146 : z80.toInt = 2 := b_eq rfl (by decide) c131
          exfalso; first | exact om_e51d599b9568 q110 f146 | first | omega | ((try (have i_t93 := Imp.go t93 (by omega))); omega)
      · skip
        have f147 : ((V99 0 73)).toInt < 300 := b_nle (by decide) rfl c116
        refine lv_aload_n hx hb dX12_closes_56 rfl (lv_at hl 2 rfl) ?_
        refine va_get (D := D) (ci := 12) (v := .ref (ad 74)) (C := RX12) (T := TX12) (N := 100) hx hb hg inX12 hown hK hP 0 rfl rfl 74 (by decide) (hg _ w1780) (fun _ h9 => h9) rfl dX12_closes_57 ?_
        refine lv_aload_n hx hb dX12_closes_60 rfl (lv_at hl 2 rfl) ?_
        refine va_get (D := D) (ci := 12) (v := .int (V99 0 73)) (C := RX12) (T := TX12) (N := 100) hx hb hg inX12 hown hK hP 0 rfl rfl 73 (by decide) (hg _ w1779) (fun _ h9 => h9) rfl dX12_closes_61 ?_
        refine lv_iload_n hx hb dX12_closes_64 rfl (lv_at hl 3 rfl) ?_
        refine va_iast (D := D) (i := (V99 0 73)) (x := p0) hx hb hK hP hD hS 52 51 rfl rfl (i_in (a := ((V99 0 73)).toInt) rfl (by first | exact om_5b0e5b7d98b0 r105.1 f147 | first | omega | ((try (have i_t93 := Imp.go t93 (by omega))); omega))) dX12_closes_65 (fun H locs hP hD hS => ?_)
        obtain ⟨V148, hV148⟩ : ∃ z, z = up2 V99 74 (Int32.toNatClampNeg (V99 0 73)) p0 := ⟨_, rfl⟩
        have hP : va_P D vwCl (mw ad kk ks.1 V148 L) H := by rw [hV148]; exact hP
        have hD : va_D A (mw ad kk ks.1 V148 L) := by rw [hV148]; exact hD
        have hMV148 : rgd bM V148 := hMV99.put hV148 (i_full _)
        have agV148 : agr [(0, 60), (0, 65), (0, 68), (0, 69), (0, 73), (0, 76), (0, 90), (0, 91), (0, 92), (0, 93), (0, 95), (0, 96), (0, 98)] [59, 61, 62, 63, 64, 66, 67, 74, 75, 77, 78, 79, 80, 94, 97] V V148 := agV99.up hV148 rfl
        refine lv_aload_n hx hb dX12_closes_66 rfl (lv_at hl 2 rfl) ?_
        refine va_get (D := D) (ci := 12) (v := .ref (ad 75)) (C := RX12) (T := TX12) (N := 100) hx hb hg inX12 hown hK hP 0 rfl rfl 75 (by decide) (hg _ w1781) (fun _ h9 => h9) rfl dX12_closes_67 ?_
        refine lv_aload_n hx hb dX12_closes_70 rfl (lv_at hl 2 rfl) ?_
        refine va_get (D := D) (ci := 12) (v := .int (V148 0 73)) (C := RX12) (T := TX12) (N := 100) hx hb hg inX12 hown hK hP 0 rfl rfl 73 (by decide) (hg _ w1779) (fun _ h9 => h9) rfl dX12_closes_71 ?_
        refine g_top (v := (V99 0 73)) (up2_o hV148 (by decide)) ?_
        refine lv_iload_n hx hb dX12_closes_74 rfl (lv_at hl 0 rfl) ?_
        refine lv_if_ne (tgt := 82) hx hb dX12_closes_75 (by decide) (fun c149 => ?_) (fun c149 => ?_)
        · skip
          have f150 : z80.toInt ≠ 0 := b_neq rfl (by decide) c149
          exfalso; first | exact om_fb320d7600b7 rgz80.1 q110 f150 | first | omega | ((try (have i_t93 := Imp.go t93 (by omega))); omega)
        · skip
          have f151 : z80.toInt = 0 := b_eq rfl (by decide) c149
          refine lv_iconst (v := 0) hx hb dX12_closes_78 (by decide) ?_
          refine lv_goto (tgt := 108) hx hb dX12_closes_79 (by decide) ?_
          refine va_iast (D := D) (i := (V99 0 73)) (x := 0) hx hb hK hP hD hS 53 52 rfl rfl (i_in (a := ((V99 0 73)).toInt) rfl (by first | exact om_5b0e5b7d98b0 r105.1 f147 | first | omega | ((try (have i_t93 := Imp.go t93 (by omega))); omega))) dX12_closes_108 (fun H locs hP hD hS => ?_)
          obtain ⟨V152, hV152⟩ : ∃ z, z = up2 V148 75 (Int32.toNatClampNeg (V99 0 73)) 0 := ⟨_, rfl⟩
          have hP : va_P D vwCl (mw ad kk ks.1 V152 L) H := by rw [hV152]; exact hP
          have hD : va_D A (mw ad kk ks.1 V152 L) := by rw [hV152]; exact hD
          have hMV152 : rgd bM V152 := hMV148.put hV152 (i_full _)
          have agV152 : agr [(0, 60), (0, 65), (0, 68), (0, 69), (0, 73), (0, 76), (0, 90), (0, 91), (0, 92), (0, 93), (0, 95), (0, 96), (0, 98)] [59, 61, 62, 63, 64, 66, 67, 74, 75, 77, 78, 79, 80, 94, 97] V V152 := agV148.up hV152 rfl
          refine lv_aload_n hx hb dX12_closes_109 rfl (lv_at hl 2 rfl) ?_
          refine lv_dup hx hb dX12_closes_110 rfl ?_
          refine va_get (D := D) (ci := 12) (v := .int (V152 0 73)) (C := RX12) (T := TX12) (N := 100) hx hb hg inX12 hown hK hP 0 rfl rfl 73 (by decide) (hg _ w1779) (fun _ h9 => h9) rfl dX12_closes_111 ?_
          refine g_top (v := (V99 0 73)) ((up2_o hV152 (by decide)).trans (up2_o hV148 (by decide))) ?_
          refine lv_iconst (v := 1) hx hb dX12_closes_114 (by decide) ?_
          refine lv_iadd hx hb dX12_closes_115 ?_
          refine lv_topi (fun z153 ez153 => ?_)
          have hz153 : z153.toInt = ((V99 0 73)).toInt + 1 := i_add ez153 rfl (by decide) (by (first | exact om_e89c2ae064a9 r105.1 f147 | omega))
          refine va_put (D := D) (ci := 12) (v := .int z153) (ty := tyX12 73) (C := RX12) (T := TX12) (N := 100) hx hb hg inX12 tyX12 tyX12_ok nmX12 hown hK hP hD hS 0 rfl rfl 73 (by decide) (hg _ w1779) (fun _ h9 => h9) rfl (tyX12_ok 73 (by decide)) rfl rfl (Nat.le_of_ble_eq_true rfl) dX12_closes_116 (fun H locs hP hD hS => ?_)
          obtain ⟨V154, hV154⟩ : ∃ z, z = up2 V152 0 73 z153 := ⟨_, rfl⟩
          have hP : va_P D vwCl (mw ad kk ks.1 V154 L) H := by rw [hV154]; exact hP
          have hD : va_D A (mw ad kk ks.1 V154 L) := by rw [hV154]; exact hD
          have hMV154 : rgd bM V154 := hMV152.put hV154 (show 0 ≤ z153.toInt ∧ z153.toInt ≤ 1000000 from by first | exact om_388b44137c0f r105.1 f147 hz153 | first | omega | ((try (have i_t93 := Imp.go t93 (by omega))); omega))
          have agV154 : agr [(0, 60), (0, 65), (0, 68), (0, 69), (0, 73), (0, 76), (0, 90), (0, 91), (0, 92), (0, 93), (0, 95), (0, 96), (0, 98)] [59, 61, 62, 63, 64, 66, 67, 74, 75, 77, 78, 79, 80, 94, 97] V V154 := agV152.up hV154 rfl
          have fm155 : FRM V V99 (-1) := (t95 : FRM V V99 (-1))
          have fm156 : FRM V V154 (-1) := (FRM.tr fm155 (FRM.ag (show agr [(0, 73)] [74, 75] V99 V154 from (agr.up (agr.up (agr.up agr.rf hV148 rfl) hV152 rfl) hV154 rfl)) ⟨⟨rfl, fun _ => rfl, fun _ => rfl, fun _ => rfl, fun _ => rfl, fun _ => rfl, fun _ => rfl⟩, by decide, by decide, rfl, rfl, fun _ => rfl, fun _ => rfl, fun _ => rfl, fun _ => rfl, fun _ => rfl, fun _ => rfl⟩) agV99 ⟨rfl, fun _ => rfl, fun _ => rfl, fun _ => rfl, fun _ => rfl, fun _ => rfl, fun _ => rfl⟩ (by (first | exact om_abdc88b0c8fc t91 | omega)))
          have ko2 := i_clamp (x := p0) rfl (by (first | exact om_eafa9039069c rg_p0.1 | omega))
          have hst := (fm156.2.1 (Int32.toNatClampNeg p0) (by omega)).2.2.2 st1
          have rt157 : RT V154 := RT.ag t94 hMV99 (show agr [(0, 73)] [74, 75] V99 V154 from (agr.up (agr.up (agr.up agr.rf hV148 rfl) hV152 rfl) hV154 rfl)) ⟨⟨rfl, fun _ => rfl, fun _ => rfl, fun _ => rfl, fun _ => rfl, fun _ => rfl, fun _ => rfl⟩, by decide, by decide, rfl, rfl, fun _ => rfl, fun _ => rfl, fun _ => rfl, fun _ => rfl, fun _ => rfl, fun _ => rfl⟩ (c0k.ag (show agr [(0, 73)] [74, 75] V99 V154 from (agr.up (agr.up (agr.up agr.rf hV148 rfl) hV152 rfl) hV154 rfl)) rfl)
          have hs2 : (V154 63 (Int32.toNatClampNeg p0)).toInt ≤ 2 := (hMV154 63 _).2
          refine lv_aload_n hx hb dX12_closes_119 rfl (lv_at hl 2 rfl) ?_
          refine va_get (D := D) (ci := 12) (v := .ref (ad 63)) (C := RX12) (T := TX12) (N := 100) hx hb hg inX12 hown hK hP 0 rfl rfl 63 (by decide) (hg _ w1769) (fun _ h9 => h9) rfl dX12_closes_120 ?_
          refine lv_iload_n hx hb dX12_closes_123 rfl (lv_at hl 3 rfl) ?_
          refine lv_iconst (v := 2) hx hb dX12_closes_124 (by decide) ?_
          refine va_iast (D := D) (i := p0) (x := 2) hx hb hK hP hD hS 48 47 rfl rfl (i_in (a := p0.toInt) rfl (by first | exact om_1f9dd9896436 rg_p0.1 oq1 r2.2 | first | omega | ((try (have i_t93 := Imp.go t93 (by omega))); omega))) dX12_closes_125 (fun H locs hP hD hS => ?_)
          obtain ⟨V158, hV158⟩ : ∃ z, z = up2 V154 63 (Int32.toNatClampNeg p0) 2 := ⟨_, rfl⟩
          have hP : va_P D vwCl (mw ad kk ks.1 V158 L) H := by rw [hV158]; exact hP
          have hD : va_D A (mw ad kk ks.1 V158 L) := by rw [hV158]; exact hD
          have hMV158 : rgd bM V158 := hMV154.put hV158 (show 0 ≤ Int32.toInt 2 ∧ Int32.toInt 2 ≤ 2 from by decide)
          have agV158 : agr [(0, 60), (0, 65), (0, 68), (0, 69), (0, 73), (0, 76), (0, 90), (0, 91), (0, 92), (0, 93), (0, 95), (0, 96), (0, 98)] [59, 61, 62, 63, 64, 66, 67, 74, 75, 77, 78, 79, 80, 94, 97] V V158 := agV154.up hV158 rfl
          have nt159a := mV_nt1 (sg := 1) (t := mt113) (k := mk114) hV148 hV152 hV154 hV158 (by have h9 := i_clamp (x := (V99 0 73)) rfl (by (first | exact om_eafa9039069c r105.1 | omega)); omega) (by omega) (by omega)
          have nt159 : mV V158 1 mt113 mk114 = mU (mNote (mV V99 1 mt113 mk114) go 0) 3 go.toNat 2 := nt159a.trans (by rw [show p0.toInt = go from zo9, show (Int32.toInt 0) = 0 from by decide, show Int32.toInt 2 = 2 from by decide, go9])
          have r160 : 0 ≤ (V99 0 65).toInt := (hMV99 0 65).1
          have r161 : (V99 0 60).toInt ≤ 300 := (hMV99 0 60).2
          have r162 : 0 ≤ (V99 0 93).toInt ∧ (V99 0 93).toInt ≤ 10 := hMV99 0 93
          have ht163 : TRs gB (mV V 0 gt gu, ga, Fclo0 glv go gc gsc :: gr) (mV V158 1 mt113 mk114, 0, gr) := TRs.st ht115 (SF.mk (show gr.length ≤ 394 from by (first | exact om_e163cc6f2f7b hl9 r7.2 | omega)) (show 0 + (totP gr) ≤ 2000 from by (first | exact om_2039720f7f75 hp9 r7.2 | omega)) (show 0 ≤ (V99 0 65).toInt ∧ (V99 0 65).toInt ≤ 300 from by (first | exact om_65732a9e84ef n1 t87 r103.2 r104.1 | omega)) (fun h9 => absurd (show (1 : Int) = 2 from h9) (by decide)) trivial) (st_18.trans ((cl_w (show ¬ (1 : Int) = 2 by decide) (show ¬ (1 : Int) = 3 by decide)).trans (by rw [← nt159]; exact mV_ans)))
          have rj164 : RJm V154 gB := RJm.ag t96 (show agr [(0, 73)] [74, 75] V99 V154 from (agr.up (agr.up (agr.up agr.rf hV148 rfl) hV152 rfl) hV154 rfl)) (by decide)
          have rj165 : RJm V158 gB := RJm.st rj164 hV158 (by decide) (fun h9 => absurd h9 (by decide))
          refine lv_iload_n hx hb dX12_closes_126 rfl (lv_at hl 0 rfl) ?_
          refine lv_iconst (v := 2) hx hb dX12_closes_127 (by decide) ?_
          refine lv_icmp_ne (tgt := 135) hx hb dX12_closes_128 (by decide) (fun c166 => ?_) (fun c166 => ?_)
          · skip
            have f167 : z80.toInt ≠ 2 := b_neq rfl (by decide) c166
            refine lv_iconst (v := 0) hx hb dX12_closes_135 (by decide) ?_
            have pq168 : (V158 0 93).toInt = ((V99 0 93)).toInt := congrArg Int32.toInt ((up2_o hV158 (by decide)).trans ((up2_k hV154 (by decide)).trans ((up2_o hV152 (by decide)).trans (up2_o hV148 (by decide)))))
            have pq169 : (V158 0 98).toInt = ((V99 0 98)).toInt := congrArg Int32.toInt ((up2_o hV158 (by decide)).trans ((up2_k hV154 (by decide)).trans ((up2_o hV152 (by decide)).trans (up2_o hV148 (by decide)))))
            have pq170 : (V158 0 60).toInt = ((V99 0 60)).toInt := congrArg Int32.toInt ((up2_o hV158 (by decide)).trans ((up2_k hV154 (by decide)).trans ((up2_o hV152 (by decide)).trans (up2_o hV148 (by decide)))))
            have pq171 : (V158 0 65).toInt = ((V99 0 65)).toInt := congrArg Int32.toInt ((up2_o hV158 (by decide)).trans ((up2_k hV154 (by decide)).trans ((up2_o hV152 (by decide)).trans (up2_o hV148 (by decide)))))
            have pq172 : (V158 0 73).toInt = z153.toInt := congrArg Int32.toInt ((up2_o hV158 (by decide)).trans (up2_s hV154))
            have pq173 : (V158 0 95).toInt = ((V99 0 95)).toInt := congrArg Int32.toInt ((up2_o hV158 (by decide)).trans ((up2_k hV154 (by decide)).trans ((up2_o hV152 (by decide)).trans (up2_o hV148 (by decide)))))
            have pq174 : (V158 0 69).toInt = ((V99 0 69)).toInt := congrArg Int32.toInt ((up2_o hV158 (by decide)).trans ((up2_k hV154 (by decide)).trans ((up2_o hV152 (by decide)).trans (up2_o hV148 (by decide)))))
            have pq175 : (V158 0 76).toInt = ((V99 0 76)).toInt := congrArg Int32.toInt ((up2_o hV158 (by decide)).trans ((up2_k hV154 (by decide)).trans ((up2_o hV152 (by decide)).trans (up2_o hV148 (by decide)))))
            have pq176 : (V158 63 (Int32.toNatClampNeg p0)).toInt = 2 := (congrArg Int32.toInt (up2_s hV158)).trans (by decide)
            have pq177 : (V154 0 95).toInt = ((V99 0 95)).toInt := congrArg Int32.toInt ((up2_k hV154 (by decide)).trans ((up2_o hV152 (by decide)).trans (up2_o hV148 (by decide))))
            have pk178 : PLK V V99 (V 0 98).toInt.toNat := (PLK.tr (PLK.rf : PLK V V (V 0 98).toInt.toNat) t97 (by (first | exact om_2b97926ac273 | omega)))
            have pk179 : PLK V V158 (V 0 98).toInt.toNat := (PLK.tr pk178 (PLK.ag (t := (V 0 98).toInt.toNat) (show agr [(0, 73)] [63, 74, 75] V99 V158 from (agr.up (agr.up (agr.up (agr.up agr.rf hV148 rfl) hV152 rfl) hV154 rfl) hV158 rfl)) (fun _ => rfl)) (Nat.le_refl _))
            have rp180 : DCl gB (mV V 0 gt gu, ga, Fclo0 glv go gc gsc :: gr) V158 gr (0) := ⟨1, mt113, mk114, 0, ht163, (fun h9 => absurd h9 (by decide)), (fun h9 => (by decide)), (fun h9 => absurd h9 (by decide))⟩
            exact W.zret (v := 0) hx hb hr rfl (fun t ht hW => ⟨⟨0, (V158, L), rfl, ⟨hMV158, agV158, rfl, (by decide), (show (V158 0 93).toInt = (V 0 93).toInt from by first | exact om_cd7d0a6a31bc t83 pq168 | first | omega | ((try (have i_t93 := Imp.go t93 (by omega))); omega)), (show (V158 0 98).toInt = (V 0 98).toInt from by first | exact om_cd7d0a6a31bc t84 pq169 | first | omega | ((try (have i_t93 := Imp.go t93 (by omega))); omega)), (show (V 0 60).toInt ≤ (V158 0 60).toInt from by first | exact om_a40cdd94799e t85 pq170 | first | omega | ((try (have i_t93 := Imp.go t93 (by omega))); omega)), (show (V 0 65).toInt ≤ (V158 0 65).toInt from by first | exact om_a40cdd94799e t86 pq171 | first | omega | ((try (have i_t93 := Imp.go t93 (by omega))); omega)), (show (V158 0 65).toInt - (V 0 65).toInt ≤ (V158 0 60).toInt - (V 0 60).toInt from by first | exact om_953d7b5213d2 t87 pq170 pq171 | first | omega | ((try (have i_t93 := Imp.go t93 (by omega))); omega)), (show (V158 0 73).toInt + (V158 0 95).toInt - (V158 0 65).toInt ≤ (V 0 73).toInt + (V 0 95).toInt - (V 0 65).toInt + 1 from by first | exact om_42de5d558cf5 t88 hz153 pq171 pq172 pq173 | first | omega | ((try (have i_t93 := Imp.go t93 (by omega))); omega)), (show (V 0 73).toInt ≤ (V158 0 73).toInt from by first | exact om_ee53cb890411 t89 hz153 pq172 | first | omega | ((try (have i_t93 := Imp.go t93 (by omega))); omega)), (show (V 0 69).toInt ≤ (V158 0 69).toInt from by first | exact om_a40cdd94799e t90 pq174 | first | omega | ((try (have i_t93 := Imp.go t93 (by omega))); omega)), (show (V158 0 95).toInt = (V 0 95).toInt from by first | exact om_cd7d0a6a31bc t91 pq173 | first | omega | ((try (have i_t93 := Imp.go t93 (by omega))); omega)), (show (V158 0 76).toInt - (V158 0 69).toInt - (V158 0 73).toInt ≤ (V 0 76).toInt - (V 0 69).toInt - (V 0 73).toInt from by first | exact om_7ae002312ece hz153 pq172 pq174 pq175 ((Imp.go t93 (f167))) | first | omega | ((try (have i_t93 := Imp.go t93 (by omega))); omega)), (show (V158 63 (Int32.toNatClampNeg p0)).toInt = 2 from by first | exact om_6aa5e6f8c558 pq176 | first | omega | ((try (have i_t93 := Imp.go t93 (by omega))); omega)), (RT.state rt157 hMV154 hV158 (by decide)), (FRM.tr fm156 (FRM.state hV158 (Or.inr ⟨by omega, by show _ ≤ (2 : Int32).toInt; have h9 : (2 : Int32).toInt = 2 := (by decide); omega⟩)) agV154 ⟨rfl, fun _ => rfl, fun _ => rfl, fun _ => rfl, fun _ => rfl, fun _ => rfl, fun _ => rfl⟩ (by (first | exact om_4052a1005a1f t91 pq177 | omega))), rj165, pk179, rp180⟩, by rw [ht]; exact hP, va_K.moved hW.alike hK, hD⟩, hS.F ht⟩) hS.2.2 dX12_closes_136
          · skip
            have f181 : z80.toInt = 2 := b_eq rfl (by decide) c166
            exfalso; first | exact om_e51d599b9568 f151 f181 | first | omega | ((try (have i_t93 := Imp.go t93 (by omega))); omega)
    · skip
      obtain ⟨bd186, ma183, ht182⟩ := dp109.e1 q110
      have ht187 : TRs gB (mV V 0 gt gu, ga, Fclo0 glv go gc gsc :: gr) (mV V99 2 (V99 0 90).toInt (V99 0 91).toInt, ma183, Fclo1 glv go gc gsc :: gr) := TRs.tr ht75 ht182
      refine lv_aload_n hx hb dX12_closes_46 rfl (lv_at hl 2 rfl) ?_
      refine va_get (D := D) (ci := 12) (v := .int (V99 0 73)) (C := RX12) (T := TX12) (N := 100) hx hb hg inX12 hown hK hP 0 rfl rfl 73 (by decide) (hg _ w1779) (fun _ h9 => h9) rfl dX12_closes_47 ?_
      refine lv_sipush (v := 300) hx hb dX12_closes_50 (by decide) ?_
      refine lv_icmp_ge (tgt := 109) hx hb dX12_closes_53 (by decide) (fun c188 => ?_) (fun c188 => ?_)
      · skip
        have f189 : 300 ≤ ((V99 0 73)).toInt := b_le (by decide) rfl c188
        refine lv_aload_n hx hb dX12_closes_109 rfl (lv_at hl 2 rfl) ?_
        refine lv_dup hx hb dX12_closes_110 rfl ?_
        refine va_get (D := D) (ci := 12) (v := .int (V99 0 73)) (C := RX12) (T := TX12) (N := 100) hx hb hg inX12 hown hK hP 0 rfl rfl 73 (by decide) (hg _ w1779) (fun _ h9 => h9) rfl dX12_closes_111 ?_
        refine lv_iconst (v := 1) hx hb dX12_closes_114 (by decide) ?_
        refine lv_iadd hx hb dX12_closes_115 ?_
        refine lv_topi (fun z190 ez190 => ?_)
        have hz190 : z190.toInt = ((V99 0 73)).toInt + 1 := i_add ez190 rfl (by decide) (by (first | exact om_67ffdf78dff2 n1 n3 r3.1 t87 t88 t91 r103.2 f189 | omega))
        refine va_put (D := D) (ci := 12) (v := .int z190) (ty := tyX12 73) (C := RX12) (T := TX12) (N := 100) hx hb hg inX12 tyX12 tyX12_ok nmX12 hown hK hP hD hS 0 rfl rfl 73 (by decide) (hg _ w1779) (fun _ h9 => h9) rfl (tyX12_ok 73 (by decide)) rfl rfl (Nat.le_of_ble_eq_true rfl) dX12_closes_116 (fun H locs hP hD hS => ?_)
        obtain ⟨V191, hV191⟩ : ∃ z, z = up2 V99 0 73 z190 := ⟨_, rfl⟩
        have hP : va_P D vwCl (mw ad kk ks.1 V191 L) H := by rw [hV191]; exact hP
        have hD : va_D A (mw ad kk ks.1 V191 L) := by rw [hV191]; exact hD
        have hMV191 : rgd bM V191 := hMV99.put hV191 (show 0 ≤ z190.toInt ∧ z190.toInt ≤ 1000000 from by first | exact om_19587af08997 n1 n3 r3.1 t87 t88 t91 r103.2 f189 hz190 | first | omega | ((try (have i_t93 := Imp.go t93 (by omega))); omega))
        have agV191 : agr [(0, 60), (0, 65), (0, 68), (0, 69), (0, 73), (0, 76), (0, 90), (0, 91), (0, 92), (0, 93), (0, 95), (0, 96), (0, 98)] [59, 61, 62, 63, 64, 66, 67, 74, 75, 77, 78, 79, 80, 94, 97] V V191 := agV99.up hV191 rfl
        have fm192 : FRM V V99 (-1) := (t95 : FRM V V99 (-1))
        have fm193 : FRM V V191 (-1) := (FRM.tr fm192 (FRM.ag (show agr [(0, 73)] [] V99 V191 from (agr.up agr.rf hV191 rfl)) ⟨⟨rfl, fun _ => rfl, fun _ => rfl, fun _ => rfl, fun _ => rfl, fun _ => rfl, fun _ => rfl⟩, by decide, by decide, rfl, rfl, fun _ => rfl, fun _ => rfl, fun _ => rfl, fun _ => rfl, fun _ => rfl, fun _ => rfl⟩) agV99 ⟨rfl, fun _ => rfl, fun _ => rfl, fun _ => rfl, fun _ => rfl, fun _ => rfl, fun _ => rfl⟩ (by (first | exact om_abdc88b0c8fc t91 | omega)))
        have ko2 := i_clamp (x := p0) rfl (by (first | exact om_eafa9039069c rg_p0.1 | omega))
        have hst := (fm193.2.1 (Int32.toNatClampNeg p0) (by omega)).2.2.2 st1
        have rt194 : RT V191 := RT.ag t94 hMV99 (show agr [(0, 73)] [] V99 V191 from (agr.up agr.rf hV191 rfl)) ⟨⟨rfl, fun _ => rfl, fun _ => rfl, fun _ => rfl, fun _ => rfl, fun _ => rfl, fun _ => rfl⟩, by decide, by decide, rfl, rfl, fun _ => rfl, fun _ => rfl, fun _ => rfl, fun _ => rfl, fun _ => rfl, fun _ => rfl⟩ (c0k.ag (show agr [(0, 73)] [] V99 V191 from (agr.up agr.rf hV191 rfl)) rfl)
        have hs2 : (V191 63 (Int32.toNatClampNeg p0)).toInt ≤ 2 := (hMV191 63 _).2
        refine lv_aload_n hx hb dX12_closes_119 rfl (lv_at hl 2 rfl) ?_
        refine va_get (D := D) (ci := 12) (v := .ref (ad 63)) (C := RX12) (T := TX12) (N := 100) hx hb hg inX12 hown hK hP 0 rfl rfl 63 (by decide) (hg _ w1769) (fun _ h9 => h9) rfl dX12_closes_120 ?_
        refine lv_iload_n hx hb dX12_closes_123 rfl (lv_at hl 3 rfl) ?_
        refine lv_iconst (v := 2) hx hb dX12_closes_124 (by decide) ?_
        refine va_iast (D := D) (i := p0) (x := 2) hx hb hK hP hD hS 48 47 rfl rfl (i_in (a := p0.toInt) rfl (by first | exact om_1f9dd9896436 rg_p0.1 oq1 r2.2 | first | omega | ((try (have i_t93 := Imp.go t93 (by omega))); omega))) dX12_closes_125 (fun H locs hP hD hS => ?_)
        obtain ⟨V195, hV195⟩ : ∃ z, z = up2 V191 63 (Int32.toNatClampNeg p0) 2 := ⟨_, rfl⟩
        have hP : va_P D vwCl (mw ad kk ks.1 V195 L) H := by rw [hV195]; exact hP
        have hD : va_D A (mw ad kk ks.1 V195 L) := by rw [hV195]; exact hD
        have hMV195 : rgd bM V195 := hMV191.put hV195 (show 0 ≤ Int32.toInt 2 ∧ Int32.toInt 2 ≤ 2 from by decide)
        have agV195 : agr [(0, 60), (0, 65), (0, 68), (0, 69), (0, 73), (0, 76), (0, 90), (0, 91), (0, 92), (0, 93), (0, 95), (0, 96), (0, 98)] [59, 61, 62, 63, 64, 66, 67, 74, 75, 77, 78, 79, 80, 94, 97] V V195 := agV191.up hV195 rfl
        have nt196 : mV V195 2 (V99 0 90).toInt (V99 0 91).toInt = mU (mNote (mV V99 2 (V99 0 90).toInt (V99 0 91).toInt) go (fst1 (V99 0 90).toInt (V99 0 91).toInt)) 3 go.toNat 2 := (mV_nt0 (x := go) (y := (fst1 (V99 0 90).toInt (V99 0 91).toInt)) hV191 hV195 (by omega) (by omega)).trans (by rw [show Int32.toInt 2 = 2 from by decide, go9])
        have r197 : 0 ≤ (V99 0 65).toInt := (hMV99 0 65).1
        have r198 : (V99 0 60).toInt ≤ 300 := (hMV99 0 60).2
        have r199 : 0 ≤ (V99 0 93).toInt ∧ (V99 0 93).toInt ≤ 10 := hMV99 0 93
        have ht200 : TRs gB (mV V 0 gt gu, ga, Fclo0 glv go gc gsc :: gr) (mV V195 2 (V99 0 90).toInt (V99 0 91).toInt, ma183, gr) := TRs.st ht187 (SF.mk (show gr.length ≤ 394 from by (first | exact om_e163cc6f2f7b hl9 r7.2 | omega)) (show 0 + (totP gr) ≤ 2000 from by (first | exact om_2039720f7f75 hp9 r7.2 | omega)) (show 0 ≤ (V99 0 65).toInt ∧ (V99 0 65).toInt ≤ 300 from by (first | exact om_65732a9e84ef n1 t87 r103.2 r104.1 | omega)) (fun _ => ⟨by show 0 ≤ (V99 0 90).toInt; omega, by show (V99 0 90).toInt ≤ 10000; omega⟩) trivial) (st_18.trans ((cl_f rfl).trans (congrArg (fun m9 => (m9, ma183, gr)) nt196.symm)))
        have rj201 : RJm V191 gB := RJm.ag t96 (show agr [(0, 73)] [] V99 V191 from (agr.up agr.rf hV191 rfl)) (by decide)
        have rj202 : RJm V195 gB := RJm.st rj201 hV195 (by decide) (fun h9 => absurd h9 (by decide))
        refine lv_iload_n hx hb dX12_closes_126 rfl (lv_at hl 0 rfl) ?_
        refine lv_iconst (v := 2) hx hb dX12_closes_127 (by decide) ?_
        refine lv_icmp_ne (tgt := 135) hx hb dX12_closes_128 (by decide) (fun c203 => ?_) (fun c203 => ?_)
        · skip
          have f204 : z80.toInt ≠ 2 := b_neq rfl (by decide) c203
          refine lv_iconst (v := 0) hx hb dX12_closes_135 (by decide) ?_
          have pq205 : (V195 0 93).toInt = ((V99 0 93)).toInt := congrArg Int32.toInt ((up2_o hV195 (by decide)).trans (up2_k hV191 (by decide)))
          have pq206 : (V195 0 98).toInt = ((V99 0 98)).toInt := congrArg Int32.toInt ((up2_o hV195 (by decide)).trans (up2_k hV191 (by decide)))
          have pq207 : (V195 0 60).toInt = ((V99 0 60)).toInt := congrArg Int32.toInt ((up2_o hV195 (by decide)).trans (up2_k hV191 (by decide)))
          have pq208 : (V195 0 65).toInt = ((V99 0 65)).toInt := congrArg Int32.toInt ((up2_o hV195 (by decide)).trans (up2_k hV191 (by decide)))
          have pq209 : (V195 0 73).toInt = z190.toInt := congrArg Int32.toInt ((up2_o hV195 (by decide)).trans (up2_s hV191))
          have pq210 : (V195 0 95).toInt = ((V99 0 95)).toInt := congrArg Int32.toInt ((up2_o hV195 (by decide)).trans (up2_k hV191 (by decide)))
          have pq211 : (V195 0 69).toInt = ((V99 0 69)).toInt := congrArg Int32.toInt ((up2_o hV195 (by decide)).trans (up2_k hV191 (by decide)))
          have pq212 : (V195 0 76).toInt = ((V99 0 76)).toInt := congrArg Int32.toInt ((up2_o hV195 (by decide)).trans (up2_k hV191 (by decide)))
          have pq213 : (V195 63 (Int32.toNatClampNeg p0)).toInt = 2 := (congrArg Int32.toInt (up2_s hV195)).trans (by decide)
          have pq214 : (V191 0 95).toInt = ((V99 0 95)).toInt := congrArg Int32.toInt (up2_k hV191 (by decide))
          have pk215 : PLK V V99 (V 0 98).toInt.toNat := (PLK.tr (PLK.rf : PLK V V (V 0 98).toInt.toNat) t97 (by (first | exact om_2b97926ac273 | omega)))
          have pk216 : PLK V V195 (V 0 98).toInt.toNat := (PLK.tr pk215 (PLK.ag (t := (V 0 98).toInt.toNat) (show agr [(0, 73)] [63] V99 V195 from (agr.up (agr.up agr.rf hV191 rfl) hV195 rfl)) (fun _ => rfl)) (Nat.le_refl _))
          have rp217 : DCl gB (mV V 0 gt gu, ga, Fclo0 glv go gc gsc :: gr) V195 gr (0) := ⟨2, (V99 0 90).toInt, (V99 0 91).toInt, ma183, ht200, (fun h9 => absurd h9 (by decide)), (fun h9 => (by decide)), (fun h9 => ⟨by omega, by omega⟩)⟩
          exact W.zret (v := 0) hx hb hr rfl (fun t ht hW => ⟨⟨0, (V195, L), rfl, ⟨hMV195, agV195, rfl, (by decide), (show (V195 0 93).toInt = (V 0 93).toInt from by first | exact om_cd7d0a6a31bc t83 pq205 | first | omega | ((try (have i_t93 := Imp.go t93 (by omega))); omega)), (show (V195 0 98).toInt = (V 0 98).toInt from by first | exact om_cd7d0a6a31bc t84 pq206 | first | omega | ((try (have i_t93 := Imp.go t93 (by omega))); omega)), (show (V 0 60).toInt ≤ (V195 0 60).toInt from by first | exact om_a40cdd94799e t85 pq207 | first | omega | ((try (have i_t93 := Imp.go t93 (by omega))); omega)), (show (V 0 65).toInt ≤ (V195 0 65).toInt from by first | exact om_a40cdd94799e t86 pq208 | first | omega | ((try (have i_t93 := Imp.go t93 (by omega))); omega)), (show (V195 0 65).toInt - (V 0 65).toInt ≤ (V195 0 60).toInt - (V 0 60).toInt from by first | exact om_953d7b5213d2 t87 pq207 pq208 | first | omega | ((try (have i_t93 := Imp.go t93 (by omega))); omega)), (show (V195 0 73).toInt + (V195 0 95).toInt - (V195 0 65).toInt ≤ (V 0 73).toInt + (V 0 95).toInt - (V 0 65).toInt + 1 from by first | exact om_42de5d558cf5 t88 hz190 pq208 pq209 pq210 | first | omega | ((try (have i_t93 := Imp.go t93 (by omega))); omega)), (show (V 0 73).toInt ≤ (V195 0 73).toInt from by first | exact om_ee53cb890411 t89 hz190 pq209 | first | omega | ((try (have i_t93 := Imp.go t93 (by omega))); omega)), (show (V 0 69).toInt ≤ (V195 0 69).toInt from by first | exact om_a40cdd94799e t90 pq211 | first | omega | ((try (have i_t93 := Imp.go t93 (by omega))); omega)), (show (V195 0 95).toInt = (V 0 95).toInt from by first | exact om_cd7d0a6a31bc t91 pq210 | first | omega | ((try (have i_t93 := Imp.go t93 (by omega))); omega)), (show (V195 0 76).toInt - (V195 0 69).toInt - (V195 0 73).toInt ≤ (V 0 76).toInt - (V 0 69).toInt - (V 0 73).toInt from by first | exact om_7ae002312ece hz190 pq209 pq211 pq212 ((Imp.go t93 (f204))) | first | omega | ((try (have i_t93 := Imp.go t93 (by omega))); omega)), (show (V195 63 (Int32.toNatClampNeg p0)).toInt = 2 from by first | exact om_6aa5e6f8c558 pq213 | first | omega | ((try (have i_t93 := Imp.go t93 (by omega))); omega)), (RT.state rt194 hMV191 hV195 (by decide)), (FRM.tr fm193 (FRM.state hV195 (Or.inr ⟨by omega, by show _ ≤ (2 : Int32).toInt; have h9 : (2 : Int32).toInt = 2 := (by decide); omega⟩)) agV191 ⟨rfl, fun _ => rfl, fun _ => rfl, fun _ => rfl, fun _ => rfl, fun _ => rfl, fun _ => rfl⟩ (by (first | exact om_4052a1005a1f t91 pq214 | omega))), rj202, pk216, rp217⟩, by rw [ht]; exact hP, va_K.moved hW.alike hK, hD⟩, hS.F ht⟩) hS.2.2 dX12_closes_136
        · skip
          have f218 : z80.toInt = 2 := b_eq rfl (by decide) c203
          exfalso; first | exact om_38374cc60141 q110 f218 | first | omega | ((try (have i_t93 := Imp.go t93 (by omega))); omega)
      · skip
        have f219 : ((V99 0 73)).toInt < 300 := b_nle (by decide) rfl c188
        refine lv_aload_n hx hb dX12_closes_56 rfl (lv_at hl 2 rfl) ?_
        refine va_get (D := D) (ci := 12) (v := .ref (ad 74)) (C := RX12) (T := TX12) (N := 100) hx hb hg inX12 hown hK hP 0 rfl rfl 74 (by decide) (hg _ w1780) (fun _ h9 => h9) rfl dX12_closes_57 ?_
        refine lv_aload_n hx hb dX12_closes_60 rfl (lv_at hl 2 rfl) ?_
        refine va_get (D := D) (ci := 12) (v := .int (V99 0 73)) (C := RX12) (T := TX12) (N := 100) hx hb hg inX12 hown hK hP 0 rfl rfl 73 (by decide) (hg _ w1779) (fun _ h9 => h9) rfl dX12_closes_61 ?_
        refine lv_iload_n hx hb dX12_closes_64 rfl (lv_at hl 3 rfl) ?_
        refine va_iast (D := D) (i := (V99 0 73)) (x := p0) hx hb hK hP hD hS 52 51 rfl rfl (i_in (a := ((V99 0 73)).toInt) rfl (by first | exact om_5b0e5b7d98b0 r105.1 f219 | first | omega | ((try (have i_t93 := Imp.go t93 (by omega))); omega))) dX12_closes_65 (fun H locs hP hD hS => ?_)
        obtain ⟨V220, hV220⟩ : ∃ z, z = up2 V99 74 (Int32.toNatClampNeg (V99 0 73)) p0 := ⟨_, rfl⟩
        have hP : va_P D vwCl (mw ad kk ks.1 V220 L) H := by rw [hV220]; exact hP
        have hD : va_D A (mw ad kk ks.1 V220 L) := by rw [hV220]; exact hD
        have hMV220 : rgd bM V220 := hMV99.put hV220 (i_full _)
        have agV220 : agr [(0, 60), (0, 65), (0, 68), (0, 69), (0, 73), (0, 76), (0, 90), (0, 91), (0, 92), (0, 93), (0, 95), (0, 96), (0, 98)] [59, 61, 62, 63, 64, 66, 67, 74, 75, 77, 78, 79, 80, 94, 97] V V220 := agV99.up hV220 rfl
        refine lv_aload_n hx hb dX12_closes_66 rfl (lv_at hl 2 rfl) ?_
        refine va_get (D := D) (ci := 12) (v := .ref (ad 75)) (C := RX12) (T := TX12) (N := 100) hx hb hg inX12 hown hK hP 0 rfl rfl 75 (by decide) (hg _ w1781) (fun _ h9 => h9) rfl dX12_closes_67 ?_
        refine lv_aload_n hx hb dX12_closes_70 rfl (lv_at hl 2 rfl) ?_
        refine va_get (D := D) (ci := 12) (v := .int (V220 0 73)) (C := RX12) (T := TX12) (N := 100) hx hb hg inX12 hown hK hP 0 rfl rfl 73 (by decide) (hg _ w1779) (fun _ h9 => h9) rfl dX12_closes_71 ?_
        refine g_top (v := (V99 0 73)) (up2_o hV220 (by decide)) ?_
        refine lv_iload_n hx hb dX12_closes_74 rfl (lv_at hl 0 rfl) ?_
        refine lv_if_ne (tgt := 82) hx hb dX12_closes_75 (by decide) (fun c221 => ?_) (fun c221 => ?_)
        · skip
          have f222 : z80.toInt ≠ 0 := b_neq rfl (by decide) c221
          refine lv_iload_n hx hb dX12_closes_82 rfl (lv_at hl 0 rfl) ?_
          refine lv_iconst (v := 2) hx hb dX12_closes_83 (by decide) ?_
          refine lv_icmp_ne (tgt := 92) hx hb dX12_closes_84 (by decide) (fun c223 => ?_) (fun c223 => ?_)
          · skip
            have f224 : z80.toInt ≠ 2 := b_neq rfl (by decide) c223
            refine lv_aload_n hx hb dX12_closes_92 rfl (lv_at hl 2 rfl) ?_
            refine va_get (D := D) (ci := 12) (v := .int (V220 0 90)) (C := RX12) (T := TX12) (N := 100) hx hb hg inX12 hown hK hP 0 rfl rfl 90 (by decide) (hg _ w1796) (fun _ h9 => h9) rfl dX12_closes_93 ?_
            refine g_top (v := (V99 0 90)) (up2_o hV220 (by decide)) ?_
            refine lv_if_le (tgt := 104) hx hb dX12_closes_96 (by decide) (fun c225 => ?_) (fun c225 => ?_)
            · skip
              have f226 : ((V99 0 90)).toInt ≤ 0 := b_le rfl (by decide) c225
              refine lv_aload_n hx hb dX12_closes_104 rfl (lv_at hl 2 rfl) ?_
              refine va_get (D := D) (ci := 12) (v := .int (V220 0 91)) (C := RX12) (T := TX12) (N := 100) hx hb hg inX12 hown hK hP 0 rfl rfl 91 (by decide) (hg _ w1797) (fun _ h9 => h9) rfl dX12_closes_105 ?_
              refine g_top (v := (V99 0 91)) (up2_o hV220 (by decide)) ?_
              refine va_iast (D := D) (i := (V99 0 73)) (x := (V99 0 91)) hx hb hK hP hD hS 53 52 rfl rfl (i_in (a := ((V99 0 73)).toInt) rfl (by first | exact om_5b0e5b7d98b0 r105.1 f219 | first | omega | ((try (have i_t93 := Imp.go t93 (by omega))); omega))) dX12_closes_108 (fun H locs hP hD hS => ?_)
              obtain ⟨V227, hV227⟩ : ∃ z, z = up2 V220 75 (Int32.toNatClampNeg (V99 0 73)) (V99 0 91) := ⟨_, rfl⟩
              have hP : va_P D vwCl (mw ad kk ks.1 V227 L) H := by rw [hV227]; exact hP
              have hD : va_D A (mw ad kk ks.1 V227 L) := by rw [hV227]; exact hD
              have hMV227 : rgd bM V227 := hMV220.put hV227 (i_full _)
              have agV227 : agr [(0, 60), (0, 65), (0, 68), (0, 69), (0, 73), (0, 76), (0, 90), (0, 91), (0, 92), (0, 93), (0, 95), (0, 96), (0, 98)] [59, 61, 62, 63, 64, 66, 67, 74, 75, 77, 78, 79, 80, 94, 97] V V227 := agV220.up hV227 rfl
              refine lv_aload_n hx hb dX12_closes_109 rfl (lv_at hl 2 rfl) ?_
              refine lv_dup hx hb dX12_closes_110 rfl ?_
              refine va_get (D := D) (ci := 12) (v := .int (V227 0 73)) (C := RX12) (T := TX12) (N := 100) hx hb hg inX12 hown hK hP 0 rfl rfl 73 (by decide) (hg _ w1779) (fun _ h9 => h9) rfl dX12_closes_111 ?_
              refine g_top (v := (V99 0 73)) ((up2_o hV227 (by decide)).trans (up2_o hV220 (by decide))) ?_
              refine lv_iconst (v := 1) hx hb dX12_closes_114 (by decide) ?_
              refine lv_iadd hx hb dX12_closes_115 ?_
              refine lv_topi (fun z228 ez228 => ?_)
              have hz228 : z228.toInt = ((V99 0 73)).toInt + 1 := i_add ez228 rfl (by decide) (by (first | exact om_e89c2ae064a9 r105.1 f219 | omega))
              refine va_put (D := D) (ci := 12) (v := .int z228) (ty := tyX12 73) (C := RX12) (T := TX12) (N := 100) hx hb hg inX12 tyX12 tyX12_ok nmX12 hown hK hP hD hS 0 rfl rfl 73 (by decide) (hg _ w1779) (fun _ h9 => h9) rfl (tyX12_ok 73 (by decide)) rfl rfl (Nat.le_of_ble_eq_true rfl) dX12_closes_116 (fun H locs hP hD hS => ?_)
              obtain ⟨V229, hV229⟩ : ∃ z, z = up2 V227 0 73 z228 := ⟨_, rfl⟩
              have hP : va_P D vwCl (mw ad kk ks.1 V229 L) H := by rw [hV229]; exact hP
              have hD : va_D A (mw ad kk ks.1 V229 L) := by rw [hV229]; exact hD
              have hMV229 : rgd bM V229 := hMV227.put hV229 (show 0 ≤ z228.toInt ∧ z228.toInt ≤ 1000000 from by first | exact om_388b44137c0f r105.1 f219 hz228 | first | omega | ((try (have i_t93 := Imp.go t93 (by omega))); omega))
              have agV229 : agr [(0, 60), (0, 65), (0, 68), (0, 69), (0, 73), (0, 76), (0, 90), (0, 91), (0, 92), (0, 93), (0, 95), (0, 96), (0, 98)] [59, 61, 62, 63, 64, 66, 67, 74, 75, 77, 78, 79, 80, 94, 97] V V229 := agV227.up hV229 rfl
              have fm230 : FRM V V99 (-1) := (t95 : FRM V V99 (-1))
              have fm231 : FRM V V229 (-1) := (FRM.tr fm230 (FRM.ag (show agr [(0, 73)] [74, 75] V99 V229 from (agr.up (agr.up (agr.up agr.rf hV220 rfl) hV227 rfl) hV229 rfl)) ⟨⟨rfl, fun _ => rfl, fun _ => rfl, fun _ => rfl, fun _ => rfl, fun _ => rfl, fun _ => rfl⟩, by decide, by decide, rfl, rfl, fun _ => rfl, fun _ => rfl, fun _ => rfl, fun _ => rfl, fun _ => rfl, fun _ => rfl⟩) agV99 ⟨rfl, fun _ => rfl, fun _ => rfl, fun _ => rfl, fun _ => rfl, fun _ => rfl, fun _ => rfl⟩ (by (first | exact om_abdc88b0c8fc t91 | omega)))
              have ko2 := i_clamp (x := p0) rfl (by (first | exact om_eafa9039069c rg_p0.1 | omega))
              have hst := (fm231.2.1 (Int32.toNatClampNeg p0) (by omega)).2.2.2 st1
              have rt232 : RT V229 := RT.ag t94 hMV99 (show agr [(0, 73)] [74, 75] V99 V229 from (agr.up (agr.up (agr.up agr.rf hV220 rfl) hV227 rfl) hV229 rfl)) ⟨⟨rfl, fun _ => rfl, fun _ => rfl, fun _ => rfl, fun _ => rfl, fun _ => rfl, fun _ => rfl⟩, by decide, by decide, rfl, rfl, fun _ => rfl, fun _ => rfl, fun _ => rfl, fun _ => rfl, fun _ => rfl, fun _ => rfl⟩ (c0k.ag (show agr [(0, 73)] [74, 75] V99 V229 from (agr.up (agr.up (agr.up agr.rf hV220 rfl) hV227 rfl) hV229 rfl)) rfl)
              have hs2 : (V229 63 (Int32.toNatClampNeg p0)).toInt ≤ 2 := (hMV229 63 _).2
              refine lv_aload_n hx hb dX12_closes_119 rfl (lv_at hl 2 rfl) ?_
              refine va_get (D := D) (ci := 12) (v := .ref (ad 63)) (C := RX12) (T := TX12) (N := 100) hx hb hg inX12 hown hK hP 0 rfl rfl 63 (by decide) (hg _ w1769) (fun _ h9 => h9) rfl dX12_closes_120 ?_
              refine lv_iload_n hx hb dX12_closes_123 rfl (lv_at hl 3 rfl) ?_
              refine lv_iconst (v := 2) hx hb dX12_closes_124 (by decide) ?_
              refine va_iast (D := D) (i := p0) (x := 2) hx hb hK hP hD hS 48 47 rfl rfl (i_in (a := p0.toInt) rfl (by first | exact om_1f9dd9896436 rg_p0.1 oq1 r2.2 | first | omega | ((try (have i_t93 := Imp.go t93 (by omega))); omega))) dX12_closes_125 (fun H locs hP hD hS => ?_)
              obtain ⟨V233, hV233⟩ : ∃ z, z = up2 V229 63 (Int32.toNatClampNeg p0) 2 := ⟨_, rfl⟩
              have hP : va_P D vwCl (mw ad kk ks.1 V233 L) H := by rw [hV233]; exact hP
              have hD : va_D A (mw ad kk ks.1 V233 L) := by rw [hV233]; exact hD
              have hMV233 : rgd bM V233 := hMV229.put hV233 (show 0 ≤ Int32.toInt 2 ∧ Int32.toInt 2 ≤ 2 from by decide)
              have agV233 : agr [(0, 60), (0, 65), (0, 68), (0, 69), (0, 73), (0, 76), (0, 90), (0, 91), (0, 92), (0, 93), (0, 95), (0, 96), (0, 98)] [59, 61, 62, 63, 64, 66, 67, 74, 75, 77, 78, 79, 80, 94, 97] V V233 := agV229.up hV233 rfl
              have nt234a := mV_nt1 (sg := 2) (t := (V99 0 90).toInt) (k := (V99 0 91).toInt) hV220 hV227 hV229 hV233 (by have h9 := i_clamp (x := (V99 0 73)) rfl (by (first | exact om_eafa9039069c r105.1 | omega)); omega) (by omega) (by omega)
              have nt234 : mV V233 2 (V99 0 90).toInt (V99 0 91).toInt = mU (mNote (mV V99 2 (V99 0 90).toInt (V99 0 91).toInt) go (fst1 (V99 0 90).toInt (V99 0 91).toInt)) 3 go.toNat 2 := nt234a.trans (by rw [show p0.toInt = go from zo9, show (fst1 (V99 0 90).toInt (V99 0 91).toInt) = ((V99 0 91)).toInt from by unfold fst1; first | (rw [if_pos (by omega)]; decide) | (rw [if_neg (by omega)]; omega) | rw [if_neg (by omega)], show Int32.toInt 2 = 2 from by decide, go9])
              have r235 : 0 ≤ (V99 0 65).toInt := (hMV99 0 65).1
              have r236 : (V99 0 60).toInt ≤ 300 := (hMV99 0 60).2
              have r237 : 0 ≤ (V99 0 93).toInt ∧ (V99 0 93).toInt ≤ 10 := hMV99 0 93
              have ht238 : TRs gB (mV V 0 gt gu, ga, Fclo0 glv go gc gsc :: gr) (mV V233 2 (V99 0 90).toInt (V99 0 91).toInt, ma183, gr) := TRs.st ht187 (SF.mk (show gr.length ≤ 394 from by (first | exact om_e163cc6f2f7b hl9 r7.2 | omega)) (show 0 + (totP gr) ≤ 2000 from by (first | exact om_2039720f7f75 hp9 r7.2 | omega)) (show 0 ≤ (V99 0 65).toInt ∧ (V99 0 65).toInt ≤ 300 from by (first | exact om_65732a9e84ef n1 t87 r103.2 r104.1 | omega)) (fun _ => ⟨by show 0 ≤ (V99 0 90).toInt; omega, by show (V99 0 90).toInt ≤ 10000; (first | exact om_70a0fbc5700a f226 | omega)⟩) trivial) (st_18.trans ((cl_f rfl).trans (congrArg (fun m9 => (m9, ma183, gr)) nt234.symm)))
              have rj239 : RJm V229 gB := RJm.ag t96 (show agr [(0, 73)] [74, 75] V99 V229 from (agr.up (agr.up (agr.up agr.rf hV220 rfl) hV227 rfl) hV229 rfl)) (by decide)
              have rj240 : RJm V233 gB := RJm.st rj239 hV233 (by decide) (fun h9 => absurd h9 (by decide))
              refine lv_iload_n hx hb dX12_closes_126 rfl (lv_at hl 0 rfl) ?_
              refine lv_iconst (v := 2) hx hb dX12_closes_127 (by decide) ?_
              refine lv_icmp_ne (tgt := 135) hx hb dX12_closes_128 (by decide) (fun c241 => ?_) (fun c241 => ?_)
              · skip
                have f242 : z80.toInt ≠ 2 := b_neq rfl (by decide) c241
                refine lv_iconst (v := 0) hx hb dX12_closes_135 (by decide) ?_
                have pq243 : (V233 0 93).toInt = ((V99 0 93)).toInt := congrArg Int32.toInt ((up2_o hV233 (by decide)).trans ((up2_k hV229 (by decide)).trans ((up2_o hV227 (by decide)).trans (up2_o hV220 (by decide)))))
                have pq244 : (V233 0 98).toInt = ((V99 0 98)).toInt := congrArg Int32.toInt ((up2_o hV233 (by decide)).trans ((up2_k hV229 (by decide)).trans ((up2_o hV227 (by decide)).trans (up2_o hV220 (by decide)))))
                have pq245 : (V233 0 60).toInt = ((V99 0 60)).toInt := congrArg Int32.toInt ((up2_o hV233 (by decide)).trans ((up2_k hV229 (by decide)).trans ((up2_o hV227 (by decide)).trans (up2_o hV220 (by decide)))))
                have pq246 : (V233 0 65).toInt = ((V99 0 65)).toInt := congrArg Int32.toInt ((up2_o hV233 (by decide)).trans ((up2_k hV229 (by decide)).trans ((up2_o hV227 (by decide)).trans (up2_o hV220 (by decide)))))
                have pq247 : (V233 0 73).toInt = z228.toInt := congrArg Int32.toInt ((up2_o hV233 (by decide)).trans (up2_s hV229))
                have pq248 : (V233 0 95).toInt = ((V99 0 95)).toInt := congrArg Int32.toInt ((up2_o hV233 (by decide)).trans ((up2_k hV229 (by decide)).trans ((up2_o hV227 (by decide)).trans (up2_o hV220 (by decide)))))
                have pq249 : (V233 0 69).toInt = ((V99 0 69)).toInt := congrArg Int32.toInt ((up2_o hV233 (by decide)).trans ((up2_k hV229 (by decide)).trans ((up2_o hV227 (by decide)).trans (up2_o hV220 (by decide)))))
                have pq250 : (V233 0 76).toInt = ((V99 0 76)).toInt := congrArg Int32.toInt ((up2_o hV233 (by decide)).trans ((up2_k hV229 (by decide)).trans ((up2_o hV227 (by decide)).trans (up2_o hV220 (by decide)))))
                have pq251 : (V233 63 (Int32.toNatClampNeg p0)).toInt = 2 := (congrArg Int32.toInt (up2_s hV233)).trans (by decide)
                have pq252 : (V229 0 95).toInt = ((V99 0 95)).toInt := congrArg Int32.toInt ((up2_k hV229 (by decide)).trans ((up2_o hV227 (by decide)).trans (up2_o hV220 (by decide))))
                have pk253 : PLK V V99 (V 0 98).toInt.toNat := (PLK.tr (PLK.rf : PLK V V (V 0 98).toInt.toNat) t97 (by (first | exact om_2b97926ac273 | omega)))
                have pk254 : PLK V V233 (V 0 98).toInt.toNat := (PLK.tr pk253 (PLK.ag (t := (V 0 98).toInt.toNat) (show agr [(0, 73)] [63, 74, 75] V99 V233 from (agr.up (agr.up (agr.up (agr.up agr.rf hV220 rfl) hV227 rfl) hV229 rfl) hV233 rfl)) (fun _ => rfl)) (Nat.le_refl _))
                have rp255 : DCl gB (mV V 0 gt gu, ga, Fclo0 glv go gc gsc :: gr) V233 gr (0) := ⟨2, (V99 0 90).toInt, (V99 0 91).toInt, ma183, ht238, (fun h9 => absurd h9 (by decide)), (fun h9 => (by decide)), (fun h9 => ⟨by omega, by omega⟩)⟩
                exact W.zret (v := 0) hx hb hr rfl (fun t ht hW => ⟨⟨0, (V233, L), rfl, ⟨hMV233, agV233, rfl, (by decide), (show (V233 0 93).toInt = (V 0 93).toInt from by first | exact om_cd7d0a6a31bc t83 pq243 | first | omega | ((try (have i_t93 := Imp.go t93 (by omega))); omega)), (show (V233 0 98).toInt = (V 0 98).toInt from by first | exact om_cd7d0a6a31bc t84 pq244 | first | omega | ((try (have i_t93 := Imp.go t93 (by omega))); omega)), (show (V 0 60).toInt ≤ (V233 0 60).toInt from by first | exact om_a40cdd94799e t85 pq245 | first | omega | ((try (have i_t93 := Imp.go t93 (by omega))); omega)), (show (V 0 65).toInt ≤ (V233 0 65).toInt from by first | exact om_a40cdd94799e t86 pq246 | first | omega | ((try (have i_t93 := Imp.go t93 (by omega))); omega)), (show (V233 0 65).toInt - (V 0 65).toInt ≤ (V233 0 60).toInt - (V 0 60).toInt from by first | exact om_953d7b5213d2 t87 pq245 pq246 | first | omega | ((try (have i_t93 := Imp.go t93 (by omega))); omega)), (show (V233 0 73).toInt + (V233 0 95).toInt - (V233 0 65).toInt ≤ (V 0 73).toInt + (V 0 95).toInt - (V 0 65).toInt + 1 from by first | exact om_42de5d558cf5 t88 hz228 pq246 pq247 pq248 | first | omega | ((try (have i_t93 := Imp.go t93 (by omega))); omega)), (show (V 0 73).toInt ≤ (V233 0 73).toInt from by first | exact om_ee53cb890411 t89 hz228 pq247 | first | omega | ((try (have i_t93 := Imp.go t93 (by omega))); omega)), (show (V 0 69).toInt ≤ (V233 0 69).toInt from by first | exact om_a40cdd94799e t90 pq249 | first | omega | ((try (have i_t93 := Imp.go t93 (by omega))); omega)), (show (V233 0 95).toInt = (V 0 95).toInt from by first | exact om_cd7d0a6a31bc t91 pq248 | first | omega | ((try (have i_t93 := Imp.go t93 (by omega))); omega)), (show (V233 0 76).toInt - (V233 0 69).toInt - (V233 0 73).toInt ≤ (V 0 76).toInt - (V 0 69).toInt - (V 0 73).toInt from by first | exact om_7ae002312ece hz228 pq247 pq249 pq250 ((Imp.go t93 (f242))) | first | omega | ((try (have i_t93 := Imp.go t93 (by omega))); omega)), (show (V233 63 (Int32.toNatClampNeg p0)).toInt = 2 from by first | exact om_6aa5e6f8c558 pq251 | first | omega | ((try (have i_t93 := Imp.go t93 (by omega))); omega)), (RT.state rt232 hMV229 hV233 (by decide)), (FRM.tr fm231 (FRM.state hV233 (Or.inr ⟨by omega, by show _ ≤ (2 : Int32).toInt; have h9 : (2 : Int32).toInt = 2 := (by decide); omega⟩)) agV229 ⟨rfl, fun _ => rfl, fun _ => rfl, fun _ => rfl, fun _ => rfl, fun _ => rfl, fun _ => rfl⟩ (by (first | exact om_4052a1005a1f t91 pq252 | omega))), rj240, pk254, rp255⟩, by rw [ht]; exact hP, va_K.moved hW.alike hK, hD⟩, hS.F ht⟩) hS.2.2 dX12_closes_136
              · skip
                have f256 : z80.toInt = 2 := b_eq rfl (by decide) c241
                exfalso; first | exact om_7a262ba27afb rgz80.2 f224 f256 | first | omega | ((try (have i_t93 := Imp.go t93 (by omega))); omega)
            · skip
              have f257 : 0 < ((V99 0 90)).toInt := b_nle rfl (by decide) c225
              refine lv_bipush (v := 20) hx hb dX12_closes_99 (by decide) ?_
              refine lv_goto (tgt := 108) hx hb dX12_closes_101 (by decide) ?_
              refine va_iast (D := D) (i := (V99 0 73)) (x := 20) hx hb hK hP hD hS 53 52 rfl rfl (i_in (a := ((V99 0 73)).toInt) rfl (by first | exact om_5b0e5b7d98b0 r105.1 f219 | first | omega | ((try (have i_t93 := Imp.go t93 (by omega))); omega))) dX12_closes_108 (fun H locs hP hD hS => ?_)
              obtain ⟨V258, hV258⟩ : ∃ z, z = up2 V220 75 (Int32.toNatClampNeg (V99 0 73)) 20 := ⟨_, rfl⟩
              have hP : va_P D vwCl (mw ad kk ks.1 V258 L) H := by rw [hV258]; exact hP
              have hD : va_D A (mw ad kk ks.1 V258 L) := by rw [hV258]; exact hD
              have hMV258 : rgd bM V258 := hMV220.put hV258 (i_full _)
              have agV258 : agr [(0, 60), (0, 65), (0, 68), (0, 69), (0, 73), (0, 76), (0, 90), (0, 91), (0, 92), (0, 93), (0, 95), (0, 96), (0, 98)] [59, 61, 62, 63, 64, 66, 67, 74, 75, 77, 78, 79, 80, 94, 97] V V258 := agV220.up hV258 rfl
              refine lv_aload_n hx hb dX12_closes_109 rfl (lv_at hl 2 rfl) ?_
              refine lv_dup hx hb dX12_closes_110 rfl ?_
              refine va_get (D := D) (ci := 12) (v := .int (V258 0 73)) (C := RX12) (T := TX12) (N := 100) hx hb hg inX12 hown hK hP 0 rfl rfl 73 (by decide) (hg _ w1779) (fun _ h9 => h9) rfl dX12_closes_111 ?_
              refine g_top (v := (V99 0 73)) ((up2_o hV258 (by decide)).trans (up2_o hV220 (by decide))) ?_
              refine lv_iconst (v := 1) hx hb dX12_closes_114 (by decide) ?_
              refine lv_iadd hx hb dX12_closes_115 ?_
              refine lv_topi (fun z259 ez259 => ?_)
              have hz259 : z259.toInt = ((V99 0 73)).toInt + 1 := i_add ez259 rfl (by decide) (by (first | exact om_e89c2ae064a9 r105.1 f219 | omega))
              refine va_put (D := D) (ci := 12) (v := .int z259) (ty := tyX12 73) (C := RX12) (T := TX12) (N := 100) hx hb hg inX12 tyX12 tyX12_ok nmX12 hown hK hP hD hS 0 rfl rfl 73 (by decide) (hg _ w1779) (fun _ h9 => h9) rfl (tyX12_ok 73 (by decide)) rfl rfl (Nat.le_of_ble_eq_true rfl) dX12_closes_116 (fun H locs hP hD hS => ?_)
              obtain ⟨V260, hV260⟩ : ∃ z, z = up2 V258 0 73 z259 := ⟨_, rfl⟩
              have hP : va_P D vwCl (mw ad kk ks.1 V260 L) H := by rw [hV260]; exact hP
              have hD : va_D A (mw ad kk ks.1 V260 L) := by rw [hV260]; exact hD
              have hMV260 : rgd bM V260 := hMV258.put hV260 (show 0 ≤ z259.toInt ∧ z259.toInt ≤ 1000000 from by first | exact om_388b44137c0f r105.1 f219 hz259 | first | omega | ((try (have i_t93 := Imp.go t93 (by omega))); omega))
              have agV260 : agr [(0, 60), (0, 65), (0, 68), (0, 69), (0, 73), (0, 76), (0, 90), (0, 91), (0, 92), (0, 93), (0, 95), (0, 96), (0, 98)] [59, 61, 62, 63, 64, 66, 67, 74, 75, 77, 78, 79, 80, 94, 97] V V260 := agV258.up hV260 rfl
              have fm261 : FRM V V99 (-1) := (t95 : FRM V V99 (-1))
              have fm262 : FRM V V260 (-1) := (FRM.tr fm261 (FRM.ag (show agr [(0, 73)] [74, 75] V99 V260 from (agr.up (agr.up (agr.up agr.rf hV220 rfl) hV258 rfl) hV260 rfl)) ⟨⟨rfl, fun _ => rfl, fun _ => rfl, fun _ => rfl, fun _ => rfl, fun _ => rfl, fun _ => rfl⟩, by decide, by decide, rfl, rfl, fun _ => rfl, fun _ => rfl, fun _ => rfl, fun _ => rfl, fun _ => rfl, fun _ => rfl⟩) agV99 ⟨rfl, fun _ => rfl, fun _ => rfl, fun _ => rfl, fun _ => rfl, fun _ => rfl, fun _ => rfl⟩ (by (first | exact om_abdc88b0c8fc t91 | omega)))
              have ko2 := i_clamp (x := p0) rfl (by (first | exact om_eafa9039069c rg_p0.1 | omega))
              have hst := (fm262.2.1 (Int32.toNatClampNeg p0) (by omega)).2.2.2 st1
              have rt263 : RT V260 := RT.ag t94 hMV99 (show agr [(0, 73)] [74, 75] V99 V260 from (agr.up (agr.up (agr.up agr.rf hV220 rfl) hV258 rfl) hV260 rfl)) ⟨⟨rfl, fun _ => rfl, fun _ => rfl, fun _ => rfl, fun _ => rfl, fun _ => rfl, fun _ => rfl⟩, by decide, by decide, rfl, rfl, fun _ => rfl, fun _ => rfl, fun _ => rfl, fun _ => rfl, fun _ => rfl, fun _ => rfl⟩ (c0k.ag (show agr [(0, 73)] [74, 75] V99 V260 from (agr.up (agr.up (agr.up agr.rf hV220 rfl) hV258 rfl) hV260 rfl)) rfl)
              have hs2 : (V260 63 (Int32.toNatClampNeg p0)).toInt ≤ 2 := (hMV260 63 _).2
              refine lv_aload_n hx hb dX12_closes_119 rfl (lv_at hl 2 rfl) ?_
              refine va_get (D := D) (ci := 12) (v := .ref (ad 63)) (C := RX12) (T := TX12) (N := 100) hx hb hg inX12 hown hK hP 0 rfl rfl 63 (by decide) (hg _ w1769) (fun _ h9 => h9) rfl dX12_closes_120 ?_
              refine lv_iload_n hx hb dX12_closes_123 rfl (lv_at hl 3 rfl) ?_
              refine lv_iconst (v := 2) hx hb dX12_closes_124 (by decide) ?_
              refine va_iast (D := D) (i := p0) (x := 2) hx hb hK hP hD hS 48 47 rfl rfl (i_in (a := p0.toInt) rfl (by first | exact om_1f9dd9896436 rg_p0.1 oq1 r2.2 | first | omega | ((try (have i_t93 := Imp.go t93 (by omega))); omega))) dX12_closes_125 (fun H locs hP hD hS => ?_)
              obtain ⟨V264, hV264⟩ : ∃ z, z = up2 V260 63 (Int32.toNatClampNeg p0) 2 := ⟨_, rfl⟩
              have hP : va_P D vwCl (mw ad kk ks.1 V264 L) H := by rw [hV264]; exact hP
              have hD : va_D A (mw ad kk ks.1 V264 L) := by rw [hV264]; exact hD
              have hMV264 : rgd bM V264 := hMV260.put hV264 (show 0 ≤ Int32.toInt 2 ∧ Int32.toInt 2 ≤ 2 from by decide)
              have agV264 : agr [(0, 60), (0, 65), (0, 68), (0, 69), (0, 73), (0, 76), (0, 90), (0, 91), (0, 92), (0, 93), (0, 95), (0, 96), (0, 98)] [59, 61, 62, 63, 64, 66, 67, 74, 75, 77, 78, 79, 80, 94, 97] V V264 := agV260.up hV264 rfl
              have nt265a := mV_nt1 (sg := 2) (t := (V99 0 90).toInt) (k := (V99 0 91).toInt) hV220 hV258 hV260 hV264 (by have h9 := i_clamp (x := (V99 0 73)) rfl (by (first | exact om_eafa9039069c r105.1 | omega)); omega) (by omega) (by omega)
              have nt265 : mV V264 2 (V99 0 90).toInt (V99 0 91).toInt = mU (mNote (mV V99 2 (V99 0 90).toInt (V99 0 91).toInt) go (fst1 (V99 0 90).toInt (V99 0 91).toInt)) 3 go.toNat 2 := nt265a.trans (by rw [show p0.toInt = go from zo9, show (fst1 (V99 0 90).toInt (V99 0 91).toInt) = (Int32.toInt 20) from by unfold fst1; first | (rw [if_pos (by omega)]; decide) | (rw [if_neg (by omega)]; omega) | rw [if_neg (by omega)], show Int32.toInt 2 = 2 from by decide, go9])
              have r266 : 0 ≤ (V99 0 65).toInt := (hMV99 0 65).1
              have r267 : (V99 0 60).toInt ≤ 300 := (hMV99 0 60).2
              have r268 : 0 ≤ (V99 0 93).toInt ∧ (V99 0 93).toInt ≤ 10 := hMV99 0 93
              have ht269 : TRs gB (mV V 0 gt gu, ga, Fclo0 glv go gc gsc :: gr) (mV V264 2 (V99 0 90).toInt (V99 0 91).toInt, ma183, gr) := TRs.st ht187 (SF.mk (show gr.length ≤ 394 from by (first | exact om_e163cc6f2f7b hl9 r7.2 | omega)) (show 0 + (totP gr) ≤ 2000 from by (first | exact om_2039720f7f75 hp9 r7.2 | omega)) (show 0 ≤ (V99 0 65).toInt ∧ (V99 0 65).toInt ≤ 300 from by (first | exact om_65732a9e84ef n1 t87 r103.2 r104.1 | omega)) (fun _ => ⟨by show 0 ≤ (V99 0 90).toInt; (first | exact om_610a4af05d44 f257 | omega), by show (V99 0 90).toInt ≤ 10000; omega⟩) trivial) (st_18.trans ((cl_f rfl).trans (congrArg (fun m9 => (m9, ma183, gr)) nt265.symm)))
              have rj270 : RJm V260 gB := RJm.ag t96 (show agr [(0, 73)] [74, 75] V99 V260 from (agr.up (agr.up (agr.up agr.rf hV220 rfl) hV258 rfl) hV260 rfl)) (by decide)
              have rj271 : RJm V264 gB := RJm.st rj270 hV264 (by decide) (fun h9 => absurd h9 (by decide))
              refine lv_iload_n hx hb dX12_closes_126 rfl (lv_at hl 0 rfl) ?_
              refine lv_iconst (v := 2) hx hb dX12_closes_127 (by decide) ?_
              refine lv_icmp_ne (tgt := 135) hx hb dX12_closes_128 (by decide) (fun c272 => ?_) (fun c272 => ?_)
              · skip
                have f273 : z80.toInt ≠ 2 := b_neq rfl (by decide) c272
                refine lv_iconst (v := 0) hx hb dX12_closes_135 (by decide) ?_
                have pq274 : (V264 0 93).toInt = ((V99 0 93)).toInt := congrArg Int32.toInt ((up2_o hV264 (by decide)).trans ((up2_k hV260 (by decide)).trans ((up2_o hV258 (by decide)).trans (up2_o hV220 (by decide)))))
                have pq275 : (V264 0 98).toInt = ((V99 0 98)).toInt := congrArg Int32.toInt ((up2_o hV264 (by decide)).trans ((up2_k hV260 (by decide)).trans ((up2_o hV258 (by decide)).trans (up2_o hV220 (by decide)))))
                have pq276 : (V264 0 60).toInt = ((V99 0 60)).toInt := congrArg Int32.toInt ((up2_o hV264 (by decide)).trans ((up2_k hV260 (by decide)).trans ((up2_o hV258 (by decide)).trans (up2_o hV220 (by decide)))))
                have pq277 : (V264 0 65).toInt = ((V99 0 65)).toInt := congrArg Int32.toInt ((up2_o hV264 (by decide)).trans ((up2_k hV260 (by decide)).trans ((up2_o hV258 (by decide)).trans (up2_o hV220 (by decide)))))
                have pq278 : (V264 0 73).toInt = z259.toInt := congrArg Int32.toInt ((up2_o hV264 (by decide)).trans (up2_s hV260))
                have pq279 : (V264 0 95).toInt = ((V99 0 95)).toInt := congrArg Int32.toInt ((up2_o hV264 (by decide)).trans ((up2_k hV260 (by decide)).trans ((up2_o hV258 (by decide)).trans (up2_o hV220 (by decide)))))
                have pq280 : (V264 0 69).toInt = ((V99 0 69)).toInt := congrArg Int32.toInt ((up2_o hV264 (by decide)).trans ((up2_k hV260 (by decide)).trans ((up2_o hV258 (by decide)).trans (up2_o hV220 (by decide)))))
                have pq281 : (V264 0 76).toInt = ((V99 0 76)).toInt := congrArg Int32.toInt ((up2_o hV264 (by decide)).trans ((up2_k hV260 (by decide)).trans ((up2_o hV258 (by decide)).trans (up2_o hV220 (by decide)))))
                have pq282 : (V264 63 (Int32.toNatClampNeg p0)).toInt = 2 := (congrArg Int32.toInt (up2_s hV264)).trans (by decide)
                have pq283 : (V260 0 95).toInt = ((V99 0 95)).toInt := congrArg Int32.toInt ((up2_k hV260 (by decide)).trans ((up2_o hV258 (by decide)).trans (up2_o hV220 (by decide))))
                have pk284 : PLK V V99 (V 0 98).toInt.toNat := (PLK.tr (PLK.rf : PLK V V (V 0 98).toInt.toNat) t97 (by (first | exact om_2b97926ac273 | omega)))
                have pk285 : PLK V V264 (V 0 98).toInt.toNat := (PLK.tr pk284 (PLK.ag (t := (V 0 98).toInt.toNat) (show agr [(0, 73)] [63, 74, 75] V99 V264 from (agr.up (agr.up (agr.up (agr.up agr.rf hV220 rfl) hV258 rfl) hV260 rfl) hV264 rfl)) (fun _ => rfl)) (Nat.le_refl _))
                have rp286 : DCl gB (mV V 0 gt gu, ga, Fclo0 glv go gc gsc :: gr) V264 gr (0) := ⟨2, (V99 0 90).toInt, (V99 0 91).toInt, ma183, ht269, (fun h9 => absurd h9 (by decide)), (fun h9 => (by decide)), (fun h9 => ⟨by omega, by omega⟩)⟩
                exact W.zret (v := 0) hx hb hr rfl (fun t ht hW => ⟨⟨0, (V264, L), rfl, ⟨hMV264, agV264, rfl, (by decide), (show (V264 0 93).toInt = (V 0 93).toInt from by first | exact om_cd7d0a6a31bc t83 pq274 | first | omega | ((try (have i_t93 := Imp.go t93 (by omega))); omega)), (show (V264 0 98).toInt = (V 0 98).toInt from by first | exact om_cd7d0a6a31bc t84 pq275 | first | omega | ((try (have i_t93 := Imp.go t93 (by omega))); omega)), (show (V 0 60).toInt ≤ (V264 0 60).toInt from by first | exact om_a40cdd94799e t85 pq276 | first | omega | ((try (have i_t93 := Imp.go t93 (by omega))); omega)), (show (V 0 65).toInt ≤ (V264 0 65).toInt from by first | exact om_a40cdd94799e t86 pq277 | first | omega | ((try (have i_t93 := Imp.go t93 (by omega))); omega)), (show (V264 0 65).toInt - (V 0 65).toInt ≤ (V264 0 60).toInt - (V 0 60).toInt from by first | exact om_953d7b5213d2 t87 pq276 pq277 | first | omega | ((try (have i_t93 := Imp.go t93 (by omega))); omega)), (show (V264 0 73).toInt + (V264 0 95).toInt - (V264 0 65).toInt ≤ (V 0 73).toInt + (V 0 95).toInt - (V 0 65).toInt + 1 from by first | exact om_42de5d558cf5 t88 hz259 pq277 pq278 pq279 | first | omega | ((try (have i_t93 := Imp.go t93 (by omega))); omega)), (show (V 0 73).toInt ≤ (V264 0 73).toInt from by first | exact om_ee53cb890411 t89 hz259 pq278 | first | omega | ((try (have i_t93 := Imp.go t93 (by omega))); omega)), (show (V 0 69).toInt ≤ (V264 0 69).toInt from by first | exact om_a40cdd94799e t90 pq280 | first | omega | ((try (have i_t93 := Imp.go t93 (by omega))); omega)), (show (V264 0 95).toInt = (V 0 95).toInt from by first | exact om_cd7d0a6a31bc t91 pq279 | first | omega | ((try (have i_t93 := Imp.go t93 (by omega))); omega)), (show (V264 0 76).toInt - (V264 0 69).toInt - (V264 0 73).toInt ≤ (V 0 76).toInt - (V 0 69).toInt - (V 0 73).toInt from by first | exact om_7ae002312ece hz259 pq278 pq280 pq281 ((Imp.go t93 (f273))) | first | omega | ((try (have i_t93 := Imp.go t93 (by omega))); omega)), (show (V264 63 (Int32.toNatClampNeg p0)).toInt = 2 from by first | exact om_6aa5e6f8c558 pq282 | first | omega | ((try (have i_t93 := Imp.go t93 (by omega))); omega)), (RT.state rt263 hMV260 hV264 (by decide)), (FRM.tr fm262 (FRM.state hV264 (Or.inr ⟨by omega, by show _ ≤ (2 : Int32).toInt; have h9 : (2 : Int32).toInt = 2 := (by decide); omega⟩)) agV260 ⟨rfl, fun _ => rfl, fun _ => rfl, fun _ => rfl, fun _ => rfl, fun _ => rfl, fun _ => rfl⟩ (by (first | exact om_4052a1005a1f t91 pq283 | omega))), rj271, pk285, rp286⟩, by rw [ht]; exact hP, va_K.moved hW.alike hK, hD⟩, hS.F ht⟩) hS.2.2 dX12_closes_136
              · skip
                have f287 : z80.toInt = 2 := b_eq rfl (by decide) c272
                exfalso; first | exact om_7a262ba27afb rgz80.2 f224 f287 | first | omega | ((try (have i_t93 := Imp.go t93 (by omega))); omega)
          · skip
            have f288 : z80.toInt = 2 := b_eq rfl (by decide) c223
            exfalso; first | exact om_38374cc60141 q110 f288 | first | omega | ((try (have i_t93 := Imp.go t93 (by omega))); omega)
        · skip
          have f289 : z80.toInt = 0 := b_eq rfl (by decide) c221
          exfalso; first | exact om_495ee03a60ae q110 f289 | first | omega | ((try (have i_t93 := Imp.go t93 (by omega))); omega)
    · skip
      obtain ⟨ma291, mt292, mk293, ht290⟩ := dp109.e2 q110
      have ht294 : TRs gB (mV V 0 gt gu, ga, Fclo0 glv go gc gsc :: gr) (mV V99 3 mt292 mk293, ma291, Fclo1 glv go gc gsc :: gr) := TRs.tr ht75 ht290
      refine lv_aload_n hx hb dX12_closes_46 rfl (lv_at hl 2 rfl) ?_
      refine va_get (D := D) (ci := 12) (v := .int (V99 0 73)) (C := RX12) (T := TX12) (N := 100) hx hb hg inX12 hown hK hP 0 rfl rfl 73 (by decide) (hg _ w1779) (fun _ h9 => h9) rfl dX12_closes_47 ?_
      refine lv_sipush (v := 300) hx hb dX12_closes_50 (by decide) ?_
      refine lv_icmp_ge (tgt := 109) hx hb dX12_closes_53 (by decide) (fun c295 => ?_) (fun c295 => ?_)
      · skip
        have f296 : 300 ≤ ((V99 0 73)).toInt := b_le (by decide) rfl c295
        refine lv_aload_n hx hb dX12_closes_109 rfl (lv_at hl 2 rfl) ?_
        refine lv_dup hx hb dX12_closes_110 rfl ?_
        refine va_get (D := D) (ci := 12) (v := .int (V99 0 73)) (C := RX12) (T := TX12) (N := 100) hx hb hg inX12 hown hK hP 0 rfl rfl 73 (by decide) (hg _ w1779) (fun _ h9 => h9) rfl dX12_closes_111 ?_
        refine lv_iconst (v := 1) hx hb dX12_closes_114 (by decide) ?_
        refine lv_iadd hx hb dX12_closes_115 ?_
        refine lv_topi (fun z297 ez297 => ?_)
        have hz297 : z297.toInt = ((V99 0 73)).toInt + 1 := i_add ez297 rfl (by decide) (by (first | exact om_67ffdf78dff2 n1 n3 r3.1 t87 t88 t91 r103.2 f296 | omega))
        refine va_put (D := D) (ci := 12) (v := .int z297) (ty := tyX12 73) (C := RX12) (T := TX12) (N := 100) hx hb hg inX12 tyX12 tyX12_ok nmX12 hown hK hP hD hS 0 rfl rfl 73 (by decide) (hg _ w1779) (fun _ h9 => h9) rfl (tyX12_ok 73 (by decide)) rfl rfl (Nat.le_of_ble_eq_true rfl) dX12_closes_116 (fun H locs hP hD hS => ?_)
        obtain ⟨V298, hV298⟩ : ∃ z, z = up2 V99 0 73 z297 := ⟨_, rfl⟩
        have hP : va_P D vwCl (mw ad kk ks.1 V298 L) H := by rw [hV298]; exact hP
        have hD : va_D A (mw ad kk ks.1 V298 L) := by rw [hV298]; exact hD
        have hMV298 : rgd bM V298 := hMV99.put hV298 (show 0 ≤ z297.toInt ∧ z297.toInt ≤ 1000000 from by first | exact om_19587af08997 n1 n3 r3.1 t87 t88 t91 r103.2 f296 hz297 | first | omega | ((try (have i_t93 := Imp.go t93 (by omega))); omega))
        have agV298 : agr [(0, 60), (0, 65), (0, 68), (0, 69), (0, 73), (0, 76), (0, 90), (0, 91), (0, 92), (0, 93), (0, 95), (0, 96), (0, 98)] [59, 61, 62, 63, 64, 66, 67, 74, 75, 77, 78, 79, 80, 94, 97] V V298 := agV99.up hV298 rfl
        have fm299 : FRM V V99 (-1) := (t95 : FRM V V99 (-1))
        have fm300 : FRM V V298 (-1) := (FRM.tr fm299 (FRM.ag (show agr [(0, 73)] [] V99 V298 from (agr.up agr.rf hV298 rfl)) ⟨⟨rfl, fun _ => rfl, fun _ => rfl, fun _ => rfl, fun _ => rfl, fun _ => rfl, fun _ => rfl⟩, by decide, by decide, rfl, rfl, fun _ => rfl, fun _ => rfl, fun _ => rfl, fun _ => rfl, fun _ => rfl, fun _ => rfl⟩) agV99 ⟨rfl, fun _ => rfl, fun _ => rfl, fun _ => rfl, fun _ => rfl, fun _ => rfl, fun _ => rfl⟩ (by (first | exact om_abdc88b0c8fc t91 | omega)))
        have ko2 := i_clamp (x := p0) rfl (by (first | exact om_eafa9039069c rg_p0.1 | omega))
        have hst := (fm300.2.1 (Int32.toNatClampNeg p0) (by omega)).2.2.2 st1
        have rt301 : RT V298 := RT.ag t94 hMV99 (show agr [(0, 73)] [] V99 V298 from (agr.up agr.rf hV298 rfl)) ⟨⟨rfl, fun _ => rfl, fun _ => rfl, fun _ => rfl, fun _ => rfl, fun _ => rfl, fun _ => rfl⟩, by decide, by decide, rfl, rfl, fun _ => rfl, fun _ => rfl, fun _ => rfl, fun _ => rfl, fun _ => rfl, fun _ => rfl⟩ (c0k.ag (show agr [(0, 73)] [] V99 V298 from (agr.up agr.rf hV298 rfl)) rfl)
        have hs2 : (V298 63 (Int32.toNatClampNeg p0)).toInt ≤ 2 := (hMV298 63 _).2
        refine lv_aload_n hx hb dX12_closes_119 rfl (lv_at hl 2 rfl) ?_
        refine va_get (D := D) (ci := 12) (v := .ref (ad 63)) (C := RX12) (T := TX12) (N := 100) hx hb hg inX12 hown hK hP 0 rfl rfl 63 (by decide) (hg _ w1769) (fun _ h9 => h9) rfl dX12_closes_120 ?_
        refine lv_iload_n hx hb dX12_closes_123 rfl (lv_at hl 3 rfl) ?_
        refine lv_iconst (v := 2) hx hb dX12_closes_124 (by decide) ?_
        refine va_iast (D := D) (i := p0) (x := 2) hx hb hK hP hD hS 48 47 rfl rfl (i_in (a := p0.toInt) rfl (by first | exact om_1f9dd9896436 rg_p0.1 oq1 r2.2 | first | omega | ((try (have i_t93 := Imp.go t93 (by omega))); omega))) dX12_closes_125 (fun H locs hP hD hS => ?_)
        obtain ⟨V302, hV302⟩ : ∃ z, z = up2 V298 63 (Int32.toNatClampNeg p0) 2 := ⟨_, rfl⟩
        have hP : va_P D vwCl (mw ad kk ks.1 V302 L) H := by rw [hV302]; exact hP
        have hD : va_D A (mw ad kk ks.1 V302 L) := by rw [hV302]; exact hD
        have hMV302 : rgd bM V302 := hMV298.put hV302 (show 0 ≤ Int32.toInt 2 ∧ Int32.toInt 2 ≤ 2 from by decide)
        have agV302 : agr [(0, 60), (0, 65), (0, 68), (0, 69), (0, 73), (0, 76), (0, 90), (0, 91), (0, 92), (0, 93), (0, 95), (0, 96), (0, 98)] [59, 61, 62, 63, 64, 66, 67, 74, 75, 77, 78, 79, 80, 94, 97] V V302 := agV298.up hV302 rfl
        have nt303 : mV V302 3 mt292 mk293 = mU (mNote (mV V99 3 mt292 mk293) go 18) 3 go.toNat 2 := (mV_nt0 (x := go) (y := 18) hV298 hV302 (by omega) (by omega)).trans (by rw [show Int32.toInt 2 = 2 from by decide, go9])
        have r304 : 0 ≤ (V99 0 65).toInt := (hMV99 0 65).1
        have r305 : (V99 0 60).toInt ≤ 300 := (hMV99 0 60).2
        have r306 : 0 ≤ (V99 0 93).toInt ∧ (V99 0 93).toInt ≤ 10 := hMV99 0 93
        have ht307 : TRs gB (mV V 0 gt gu, ga, Fclo0 glv go gc gsc :: gr) (mV V302 3 mt292 mk293, ma291, gr) := TRs.st ht294 (SF.mk (show gr.length ≤ 394 from by (first | exact om_e163cc6f2f7b hl9 r7.2 | omega)) (show 0 + (totP gr) ≤ 2000 from by (first | exact om_2039720f7f75 hp9 r7.2 | omega)) (show 0 ≤ (V99 0 65).toInt ∧ (V99 0 65).toInt ≤ 300 from by (first | exact om_65732a9e84ef n1 t87 r103.2 r104.1 | omega)) (fun h9 => absurd (show (3 : Int) = 2 from h9) (by decide)) trivial) (st_18.trans ((cl_s rfl).trans (congrArg (fun m9 => (m9, ma291, gr)) nt303.symm)))
        have rj308 : RJm V298 gB := RJm.ag t96 (show agr [(0, 73)] [] V99 V298 from (agr.up agr.rf hV298 rfl)) (by decide)
        have rj309 : RJm V302 gB := RJm.st rj308 hV302 (by decide) (fun h9 => absurd h9 (by decide))
        refine lv_iload_n hx hb dX12_closes_126 rfl (lv_at hl 0 rfl) ?_
        refine lv_iconst (v := 2) hx hb dX12_closes_127 (by decide) ?_
        refine lv_icmp_ne (tgt := 135) hx hb dX12_closes_128 (by decide) (fun c310 => ?_) (fun c310 => ?_)
        · skip
          have f311 : z80.toInt ≠ 2 := b_neq rfl (by decide) c310
          exfalso; first | exact om_8db84fa33bad rgz80.2 q110 f311 | first | omega | ((try (have i_t93 := Imp.go t93 (by omega))); omega)
        · skip
          have f312 : z80.toInt = 2 := b_eq rfl (by decide) c310
          refine lv_iconst (v := 1) hx hb dX12_closes_131 (by decide) ?_
          refine lv_goto (tgt := 136) hx hb dX12_closes_132 (by decide) ?_
          have pq313 : (V302 0 93).toInt = ((V99 0 93)).toInt := congrArg Int32.toInt ((up2_o hV302 (by decide)).trans (up2_k hV298 (by decide)))
          have pq314 : (V302 0 98).toInt = ((V99 0 98)).toInt := congrArg Int32.toInt ((up2_o hV302 (by decide)).trans (up2_k hV298 (by decide)))
          have pq315 : (V302 0 60).toInt = ((V99 0 60)).toInt := congrArg Int32.toInt ((up2_o hV302 (by decide)).trans (up2_k hV298 (by decide)))
          have pq316 : (V302 0 65).toInt = ((V99 0 65)).toInt := congrArg Int32.toInt ((up2_o hV302 (by decide)).trans (up2_k hV298 (by decide)))
          have pq317 : (V302 0 73).toInt = z297.toInt := congrArg Int32.toInt ((up2_o hV302 (by decide)).trans (up2_s hV298))
          have pq318 : (V302 0 95).toInt = ((V99 0 95)).toInt := congrArg Int32.toInt ((up2_o hV302 (by decide)).trans (up2_k hV298 (by decide)))
          have pq319 : (V302 0 69).toInt = ((V99 0 69)).toInt := congrArg Int32.toInt ((up2_o hV302 (by decide)).trans (up2_k hV298 (by decide)))
          have pq320 : (V302 0 76).toInt = ((V99 0 76)).toInt := congrArg Int32.toInt ((up2_o hV302 (by decide)).trans (up2_k hV298 (by decide)))
          have pq321 : (V302 63 (Int32.toNatClampNeg p0)).toInt = 2 := (congrArg Int32.toInt (up2_s hV302)).trans (by decide)
          have pq322 : (V298 0 95).toInt = ((V99 0 95)).toInt := congrArg Int32.toInt (up2_k hV298 (by decide))
          have pk323 : PLK V V99 (V 0 98).toInt.toNat := (PLK.tr (PLK.rf : PLK V V (V 0 98).toInt.toNat) t97 (by (first | exact om_2b97926ac273 | omega)))
          have pk324 : PLK V V302 (V 0 98).toInt.toNat := (PLK.tr pk323 (PLK.ag (t := (V 0 98).toInt.toNat) (show agr [(0, 73)] [63] V99 V302 from (agr.up (agr.up agr.rf hV298 rfl) hV302 rfl)) (fun _ => rfl)) (Nat.le_refl _))
          have rp325 : DCl gB (mV V 0 gt gu, ga, Fclo0 glv go gc gsc :: gr) V302 gr (1) := ⟨3, mt292, mk293, ma291, ht307, (fun h9 => rfl), (fun h9 => absurd h9 (by decide)), (fun h9 => absurd h9 (by decide))⟩
          exact W.zret (v := 1) hx hb hr rfl (fun t ht hW => ⟨⟨1, (V302, L), rfl, ⟨hMV302, agV302, rfl, (by decide), (show (V302 0 93).toInt = (V 0 93).toInt from by first | exact om_cd7d0a6a31bc t83 pq313 | first | omega | ((try (have i_t93 := Imp.go t93 (by omega))); omega)), (show (V302 0 98).toInt = (V 0 98).toInt from by first | exact om_cd7d0a6a31bc t84 pq314 | first | omega | ((try (have i_t93 := Imp.go t93 (by omega))); omega)), (show (V 0 60).toInt ≤ (V302 0 60).toInt from by first | exact om_a40cdd94799e t85 pq315 | first | omega | ((try (have i_t93 := Imp.go t93 (by omega))); omega)), (show (V 0 65).toInt ≤ (V302 0 65).toInt from by first | exact om_a40cdd94799e t86 pq316 | first | omega | ((try (have i_t93 := Imp.go t93 (by omega))); omega)), (show (V302 0 65).toInt - (V 0 65).toInt ≤ (V302 0 60).toInt - (V 0 60).toInt from by first | exact om_953d7b5213d2 t87 pq315 pq316 | first | omega | ((try (have i_t93 := Imp.go t93 (by omega))); omega)), (show (V302 0 73).toInt + (V302 0 95).toInt - (V302 0 65).toInt ≤ (V 0 73).toInt + (V 0 95).toInt - (V 0 65).toInt + 1 from by first | exact om_42de5d558cf5 t88 hz297 pq316 pq317 pq318 | first | omega | ((try (have i_t93 := Imp.go t93 (by omega))); omega)), (show (V 0 73).toInt ≤ (V302 0 73).toInt from by first | exact om_ee53cb890411 t89 hz297 pq317 | first | omega | ((try (have i_t93 := Imp.go t93 (by omega))); omega)), (show (V 0 69).toInt ≤ (V302 0 69).toInt from by first | exact om_a40cdd94799e t90 pq319 | first | omega | ((try (have i_t93 := Imp.go t93 (by omega))); omega)), (show (V302 0 95).toInt = (V 0 95).toInt from by first | exact om_cd7d0a6a31bc t91 pq318 | first | omega | ((try (have i_t93 := Imp.go t93 (by omega))); omega)), (show (V302 0 76).toInt - (V302 0 69).toInt - (V302 0 73).toInt ≤ (V 0 76).toInt - (V 0 69).toInt - (V 0 73).toInt from by first | exact om_93aa01eebf48 t92 hz297 pq317 pq319 pq320 | first | omega | ((try (have i_t93 := Imp.go t93 (by omega))); omega)), (show (V302 63 (Int32.toNatClampNeg p0)).toInt = 2 from by first | exact om_6aa5e6f8c558 pq321 | first | omega | ((try (have i_t93 := Imp.go t93 (by omega))); omega)), (RT.state rt301 hMV298 hV302 (by decide)), (FRM.tr fm300 (FRM.state hV302 (Or.inr ⟨by omega, by show _ ≤ (2 : Int32).toInt; have h9 : (2 : Int32).toInt = 2 := (by decide); omega⟩)) agV298 ⟨rfl, fun _ => rfl, fun _ => rfl, fun _ => rfl, fun _ => rfl, fun _ => rfl, fun _ => rfl⟩ (by (first | exact om_4052a1005a1f t91 pq322 | omega))), rj309, pk324, rp325⟩, by rw [ht]; exact hP, va_K.moved hW.alike hK, hD⟩, hS.F ht⟩) hS.2.2 dX12_closes_136
      · skip
        have f326 : ((V99 0 73)).toInt < 300 := b_nle (by decide) rfl c295
        refine lv_aload_n hx hb dX12_closes_56 rfl (lv_at hl 2 rfl) ?_
        refine va_get (D := D) (ci := 12) (v := .ref (ad 74)) (C := RX12) (T := TX12) (N := 100) hx hb hg inX12 hown hK hP 0 rfl rfl 74 (by decide) (hg _ w1780) (fun _ h9 => h9) rfl dX12_closes_57 ?_
        refine lv_aload_n hx hb dX12_closes_60 rfl (lv_at hl 2 rfl) ?_
        refine va_get (D := D) (ci := 12) (v := .int (V99 0 73)) (C := RX12) (T := TX12) (N := 100) hx hb hg inX12 hown hK hP 0 rfl rfl 73 (by decide) (hg _ w1779) (fun _ h9 => h9) rfl dX12_closes_61 ?_
        refine lv_iload_n hx hb dX12_closes_64 rfl (lv_at hl 3 rfl) ?_
        refine va_iast (D := D) (i := (V99 0 73)) (x := p0) hx hb hK hP hD hS 52 51 rfl rfl (i_in (a := ((V99 0 73)).toInt) rfl (by first | exact om_5b0e5b7d98b0 r105.1 f326 | first | omega | ((try (have i_t93 := Imp.go t93 (by omega))); omega))) dX12_closes_65 (fun H locs hP hD hS => ?_)
        obtain ⟨V327, hV327⟩ : ∃ z, z = up2 V99 74 (Int32.toNatClampNeg (V99 0 73)) p0 := ⟨_, rfl⟩
        have hP : va_P D vwCl (mw ad kk ks.1 V327 L) H := by rw [hV327]; exact hP
        have hD : va_D A (mw ad kk ks.1 V327 L) := by rw [hV327]; exact hD
        have hMV327 : rgd bM V327 := hMV99.put hV327 (i_full _)
        have agV327 : agr [(0, 60), (0, 65), (0, 68), (0, 69), (0, 73), (0, 76), (0, 90), (0, 91), (0, 92), (0, 93), (0, 95), (0, 96), (0, 98)] [59, 61, 62, 63, 64, 66, 67, 74, 75, 77, 78, 79, 80, 94, 97] V V327 := agV99.up hV327 rfl
        refine lv_aload_n hx hb dX12_closes_66 rfl (lv_at hl 2 rfl) ?_
        refine va_get (D := D) (ci := 12) (v := .ref (ad 75)) (C := RX12) (T := TX12) (N := 100) hx hb hg inX12 hown hK hP 0 rfl rfl 75 (by decide) (hg _ w1781) (fun _ h9 => h9) rfl dX12_closes_67 ?_
        refine lv_aload_n hx hb dX12_closes_70 rfl (lv_at hl 2 rfl) ?_
        refine va_get (D := D) (ci := 12) (v := .int (V327 0 73)) (C := RX12) (T := TX12) (N := 100) hx hb hg inX12 hown hK hP 0 rfl rfl 73 (by decide) (hg _ w1779) (fun _ h9 => h9) rfl dX12_closes_71 ?_
        refine g_top (v := (V99 0 73)) (up2_o hV327 (by decide)) ?_
        refine lv_iload_n hx hb dX12_closes_74 rfl (lv_at hl 0 rfl) ?_
        refine lv_if_ne (tgt := 82) hx hb dX12_closes_75 (by decide) (fun c328 => ?_) (fun c328 => ?_)
        · skip
          have f329 : z80.toInt ≠ 0 := b_neq rfl (by decide) c328
          refine lv_iload_n hx hb dX12_closes_82 rfl (lv_at hl 0 rfl) ?_
          refine lv_iconst (v := 2) hx hb dX12_closes_83 (by decide) ?_
          refine lv_icmp_ne (tgt := 92) hx hb dX12_closes_84 (by decide) (fun c330 => ?_) (fun c330 => ?_)
          · skip
            have f331 : z80.toInt ≠ 2 := b_neq rfl (by decide) c330
            exfalso; first | exact om_8db84fa33bad rgz80.2 q110 f331 | first | omega | ((try (have i_t93 := Imp.go t93 (by omega))); omega)
          · skip
            have f332 : z80.toInt = 2 := b_eq rfl (by decide) c330
            refine lv_bipush (v := 18) hx hb dX12_closes_87 (by decide) ?_
            refine lv_goto (tgt := 108) hx hb dX12_closes_89 (by decide) ?_
            refine va_iast (D := D) (i := (V99 0 73)) (x := 18) hx hb hK hP hD hS 53 52 rfl rfl (i_in (a := ((V99 0 73)).toInt) rfl (by first | exact om_5b0e5b7d98b0 r105.1 f326 | first | omega | ((try (have i_t93 := Imp.go t93 (by omega))); omega))) dX12_closes_108 (fun H locs hP hD hS => ?_)
            obtain ⟨V333, hV333⟩ : ∃ z, z = up2 V327 75 (Int32.toNatClampNeg (V99 0 73)) 18 := ⟨_, rfl⟩
            have hP : va_P D vwCl (mw ad kk ks.1 V333 L) H := by rw [hV333]; exact hP
            have hD : va_D A (mw ad kk ks.1 V333 L) := by rw [hV333]; exact hD
            have hMV333 : rgd bM V333 := hMV327.put hV333 (i_full _)
            have agV333 : agr [(0, 60), (0, 65), (0, 68), (0, 69), (0, 73), (0, 76), (0, 90), (0, 91), (0, 92), (0, 93), (0, 95), (0, 96), (0, 98)] [59, 61, 62, 63, 64, 66, 67, 74, 75, 77, 78, 79, 80, 94, 97] V V333 := agV327.up hV333 rfl
            refine lv_aload_n hx hb dX12_closes_109 rfl (lv_at hl 2 rfl) ?_
            refine lv_dup hx hb dX12_closes_110 rfl ?_
            refine va_get (D := D) (ci := 12) (v := .int (V333 0 73)) (C := RX12) (T := TX12) (N := 100) hx hb hg inX12 hown hK hP 0 rfl rfl 73 (by decide) (hg _ w1779) (fun _ h9 => h9) rfl dX12_closes_111 ?_
            refine g_top (v := (V99 0 73)) ((up2_o hV333 (by decide)).trans (up2_o hV327 (by decide))) ?_
            refine lv_iconst (v := 1) hx hb dX12_closes_114 (by decide) ?_
            refine lv_iadd hx hb dX12_closes_115 ?_
            refine lv_topi (fun z334 ez334 => ?_)
            have hz334 : z334.toInt = ((V99 0 73)).toInt + 1 := i_add ez334 rfl (by decide) (by (first | exact om_e89c2ae064a9 r105.1 f326 | omega))
            refine va_put (D := D) (ci := 12) (v := .int z334) (ty := tyX12 73) (C := RX12) (T := TX12) (N := 100) hx hb hg inX12 tyX12 tyX12_ok nmX12 hown hK hP hD hS 0 rfl rfl 73 (by decide) (hg _ w1779) (fun _ h9 => h9) rfl (tyX12_ok 73 (by decide)) rfl rfl (Nat.le_of_ble_eq_true rfl) dX12_closes_116 (fun H locs hP hD hS => ?_)
            obtain ⟨V335, hV335⟩ : ∃ z, z = up2 V333 0 73 z334 := ⟨_, rfl⟩
            have hP : va_P D vwCl (mw ad kk ks.1 V335 L) H := by rw [hV335]; exact hP
            have hD : va_D A (mw ad kk ks.1 V335 L) := by rw [hV335]; exact hD
            have hMV335 : rgd bM V335 := hMV333.put hV335 (show 0 ≤ z334.toInt ∧ z334.toInt ≤ 1000000 from by first | exact om_388b44137c0f r105.1 f326 hz334 | first | omega | ((try (have i_t93 := Imp.go t93 (by omega))); omega))
            have agV335 : agr [(0, 60), (0, 65), (0, 68), (0, 69), (0, 73), (0, 76), (0, 90), (0, 91), (0, 92), (0, 93), (0, 95), (0, 96), (0, 98)] [59, 61, 62, 63, 64, 66, 67, 74, 75, 77, 78, 79, 80, 94, 97] V V335 := agV333.up hV335 rfl
            have fm336 : FRM V V99 (-1) := (t95 : FRM V V99 (-1))
            have fm337 : FRM V V335 (-1) := (FRM.tr fm336 (FRM.ag (show agr [(0, 73)] [74, 75] V99 V335 from (agr.up (agr.up (agr.up agr.rf hV327 rfl) hV333 rfl) hV335 rfl)) ⟨⟨rfl, fun _ => rfl, fun _ => rfl, fun _ => rfl, fun _ => rfl, fun _ => rfl, fun _ => rfl⟩, by decide, by decide, rfl, rfl, fun _ => rfl, fun _ => rfl, fun _ => rfl, fun _ => rfl, fun _ => rfl, fun _ => rfl⟩) agV99 ⟨rfl, fun _ => rfl, fun _ => rfl, fun _ => rfl, fun _ => rfl, fun _ => rfl, fun _ => rfl⟩ (by (first | exact om_abdc88b0c8fc t91 | omega)))
            have ko2 := i_clamp (x := p0) rfl (by (first | exact om_eafa9039069c rg_p0.1 | omega))
            have hst := (fm337.2.1 (Int32.toNatClampNeg p0) (by omega)).2.2.2 st1
            have rt338 : RT V335 := RT.ag t94 hMV99 (show agr [(0, 73)] [74, 75] V99 V335 from (agr.up (agr.up (agr.up agr.rf hV327 rfl) hV333 rfl) hV335 rfl)) ⟨⟨rfl, fun _ => rfl, fun _ => rfl, fun _ => rfl, fun _ => rfl, fun _ => rfl, fun _ => rfl⟩, by decide, by decide, rfl, rfl, fun _ => rfl, fun _ => rfl, fun _ => rfl, fun _ => rfl, fun _ => rfl, fun _ => rfl⟩ (c0k.ag (show agr [(0, 73)] [74, 75] V99 V335 from (agr.up (agr.up (agr.up agr.rf hV327 rfl) hV333 rfl) hV335 rfl)) rfl)
            have hs2 : (V335 63 (Int32.toNatClampNeg p0)).toInt ≤ 2 := (hMV335 63 _).2
            refine lv_aload_n hx hb dX12_closes_119 rfl (lv_at hl 2 rfl) ?_
            refine va_get (D := D) (ci := 12) (v := .ref (ad 63)) (C := RX12) (T := TX12) (N := 100) hx hb hg inX12 hown hK hP 0 rfl rfl 63 (by decide) (hg _ w1769) (fun _ h9 => h9) rfl dX12_closes_120 ?_
            refine lv_iload_n hx hb dX12_closes_123 rfl (lv_at hl 3 rfl) ?_
            refine lv_iconst (v := 2) hx hb dX12_closes_124 (by decide) ?_
            refine va_iast (D := D) (i := p0) (x := 2) hx hb hK hP hD hS 48 47 rfl rfl (i_in (a := p0.toInt) rfl (by first | exact om_1f9dd9896436 rg_p0.1 oq1 r2.2 | first | omega | ((try (have i_t93 := Imp.go t93 (by omega))); omega))) dX12_closes_125 (fun H locs hP hD hS => ?_)
            obtain ⟨V339, hV339⟩ : ∃ z, z = up2 V335 63 (Int32.toNatClampNeg p0) 2 := ⟨_, rfl⟩
            have hP : va_P D vwCl (mw ad kk ks.1 V339 L) H := by rw [hV339]; exact hP
            have hD : va_D A (mw ad kk ks.1 V339 L) := by rw [hV339]; exact hD
            have hMV339 : rgd bM V339 := hMV335.put hV339 (show 0 ≤ Int32.toInt 2 ∧ Int32.toInt 2 ≤ 2 from by decide)
            have agV339 : agr [(0, 60), (0, 65), (0, 68), (0, 69), (0, 73), (0, 76), (0, 90), (0, 91), (0, 92), (0, 93), (0, 95), (0, 96), (0, 98)] [59, 61, 62, 63, 64, 66, 67, 74, 75, 77, 78, 79, 80, 94, 97] V V339 := agV335.up hV339 rfl
            have nt340a := mV_nt1 (sg := 3) (t := mt292) (k := mk293) hV327 hV333 hV335 hV339 (by have h9 := i_clamp (x := (V99 0 73)) rfl (by (first | exact om_eafa9039069c r105.1 | omega)); omega) (by omega) (by omega)
            have nt340 : mV V339 3 mt292 mk293 = mU (mNote (mV V99 3 mt292 mk293) go 18) 3 go.toNat 2 := nt340a.trans (by rw [show p0.toInt = go from zo9, show (Int32.toInt 18) = 18 from by decide, show Int32.toInt 2 = 2 from by decide, go9])
            have r341 : 0 ≤ (V99 0 65).toInt := (hMV99 0 65).1
            have r342 : (V99 0 60).toInt ≤ 300 := (hMV99 0 60).2
            have r343 : 0 ≤ (V99 0 93).toInt ∧ (V99 0 93).toInt ≤ 10 := hMV99 0 93
            have ht344 : TRs gB (mV V 0 gt gu, ga, Fclo0 glv go gc gsc :: gr) (mV V339 3 mt292 mk293, ma291, gr) := TRs.st ht294 (SF.mk (show gr.length ≤ 394 from by (first | exact om_e163cc6f2f7b hl9 r7.2 | omega)) (show 0 + (totP gr) ≤ 2000 from by (first | exact om_2039720f7f75 hp9 r7.2 | omega)) (show 0 ≤ (V99 0 65).toInt ∧ (V99 0 65).toInt ≤ 300 from by (first | exact om_65732a9e84ef n1 t87 r103.2 r104.1 | omega)) (fun h9 => absurd (show (3 : Int) = 2 from h9) (by decide)) trivial) (st_18.trans ((cl_s rfl).trans (congrArg (fun m9 => (m9, ma291, gr)) nt340.symm)))
            have rj345 : RJm V335 gB := RJm.ag t96 (show agr [(0, 73)] [74, 75] V99 V335 from (agr.up (agr.up (agr.up agr.rf hV327 rfl) hV333 rfl) hV335 rfl)) (by decide)
            have rj346 : RJm V339 gB := RJm.st rj345 hV339 (by decide) (fun h9 => absurd h9 (by decide))
            refine lv_iload_n hx hb dX12_closes_126 rfl (lv_at hl 0 rfl) ?_
            refine lv_iconst (v := 2) hx hb dX12_closes_127 (by decide) ?_
            refine lv_icmp_ne (tgt := 135) hx hb dX12_closes_128 (by decide) (fun c347 => ?_) (fun c347 => ?_)
            · skip
              have f348 : z80.toInt ≠ 2 := b_neq rfl (by decide) c347
              exfalso; first | exact om_8db84fa33bad rgz80.2 f332 f348 | first | omega | ((try (have i_t93 := Imp.go t93 (by omega))); omega)
            · skip
              have f349 : z80.toInt = 2 := b_eq rfl (by decide) c347
              refine lv_iconst (v := 1) hx hb dX12_closes_131 (by decide) ?_
              refine lv_goto (tgt := 136) hx hb dX12_closes_132 (by decide) ?_
              have pq350 : (V339 0 93).toInt = ((V99 0 93)).toInt := congrArg Int32.toInt ((up2_o hV339 (by decide)).trans ((up2_k hV335 (by decide)).trans ((up2_o hV333 (by decide)).trans (up2_o hV327 (by decide)))))
              have pq351 : (V339 0 98).toInt = ((V99 0 98)).toInt := congrArg Int32.toInt ((up2_o hV339 (by decide)).trans ((up2_k hV335 (by decide)).trans ((up2_o hV333 (by decide)).trans (up2_o hV327 (by decide)))))
              have pq352 : (V339 0 60).toInt = ((V99 0 60)).toInt := congrArg Int32.toInt ((up2_o hV339 (by decide)).trans ((up2_k hV335 (by decide)).trans ((up2_o hV333 (by decide)).trans (up2_o hV327 (by decide)))))
              have pq353 : (V339 0 65).toInt = ((V99 0 65)).toInt := congrArg Int32.toInt ((up2_o hV339 (by decide)).trans ((up2_k hV335 (by decide)).trans ((up2_o hV333 (by decide)).trans (up2_o hV327 (by decide)))))
              have pq354 : (V339 0 73).toInt = z334.toInt := congrArg Int32.toInt ((up2_o hV339 (by decide)).trans (up2_s hV335))
              have pq355 : (V339 0 95).toInt = ((V99 0 95)).toInt := congrArg Int32.toInt ((up2_o hV339 (by decide)).trans ((up2_k hV335 (by decide)).trans ((up2_o hV333 (by decide)).trans (up2_o hV327 (by decide)))))
              have pq356 : (V339 0 69).toInt = ((V99 0 69)).toInt := congrArg Int32.toInt ((up2_o hV339 (by decide)).trans ((up2_k hV335 (by decide)).trans ((up2_o hV333 (by decide)).trans (up2_o hV327 (by decide)))))
              have pq357 : (V339 0 76).toInt = ((V99 0 76)).toInt := congrArg Int32.toInt ((up2_o hV339 (by decide)).trans ((up2_k hV335 (by decide)).trans ((up2_o hV333 (by decide)).trans (up2_o hV327 (by decide)))))
              have pq358 : (V339 63 (Int32.toNatClampNeg p0)).toInt = 2 := (congrArg Int32.toInt (up2_s hV339)).trans (by decide)
              have pq359 : (V335 0 95).toInt = ((V99 0 95)).toInt := congrArg Int32.toInt ((up2_k hV335 (by decide)).trans ((up2_o hV333 (by decide)).trans (up2_o hV327 (by decide))))
              have pk360 : PLK V V99 (V 0 98).toInt.toNat := (PLK.tr (PLK.rf : PLK V V (V 0 98).toInt.toNat) t97 (by (first | exact om_2b97926ac273 | omega)))
              have pk361 : PLK V V339 (V 0 98).toInt.toNat := (PLK.tr pk360 (PLK.ag (t := (V 0 98).toInt.toNat) (show agr [(0, 73)] [63, 74, 75] V99 V339 from (agr.up (agr.up (agr.up (agr.up agr.rf hV327 rfl) hV333 rfl) hV335 rfl) hV339 rfl)) (fun _ => rfl)) (Nat.le_refl _))
              have rp362 : DCl gB (mV V 0 gt gu, ga, Fclo0 glv go gc gsc :: gr) V339 gr (1) := ⟨3, mt292, mk293, ma291, ht344, (fun h9 => rfl), (fun h9 => absurd h9 (by decide)), (fun h9 => absurd h9 (by decide))⟩
              exact W.zret (v := 1) hx hb hr rfl (fun t ht hW => ⟨⟨1, (V339, L), rfl, ⟨hMV339, agV339, rfl, (by decide), (show (V339 0 93).toInt = (V 0 93).toInt from by first | exact om_cd7d0a6a31bc t83 pq350 | first | omega | ((try (have i_t93 := Imp.go t93 (by omega))); omega)), (show (V339 0 98).toInt = (V 0 98).toInt from by first | exact om_cd7d0a6a31bc t84 pq351 | first | omega | ((try (have i_t93 := Imp.go t93 (by omega))); omega)), (show (V 0 60).toInt ≤ (V339 0 60).toInt from by first | exact om_a40cdd94799e t85 pq352 | first | omega | ((try (have i_t93 := Imp.go t93 (by omega))); omega)), (show (V 0 65).toInt ≤ (V339 0 65).toInt from by first | exact om_a40cdd94799e t86 pq353 | first | omega | ((try (have i_t93 := Imp.go t93 (by omega))); omega)), (show (V339 0 65).toInt - (V 0 65).toInt ≤ (V339 0 60).toInt - (V 0 60).toInt from by first | exact om_953d7b5213d2 t87 pq352 pq353 | first | omega | ((try (have i_t93 := Imp.go t93 (by omega))); omega)), (show (V339 0 73).toInt + (V339 0 95).toInt - (V339 0 65).toInt ≤ (V 0 73).toInt + (V 0 95).toInt - (V 0 65).toInt + 1 from by first | exact om_42de5d558cf5 t88 hz334 pq353 pq354 pq355 | first | omega | ((try (have i_t93 := Imp.go t93 (by omega))); omega)), (show (V 0 73).toInt ≤ (V339 0 73).toInt from by first | exact om_ee53cb890411 t89 hz334 pq354 | first | omega | ((try (have i_t93 := Imp.go t93 (by omega))); omega)), (show (V 0 69).toInt ≤ (V339 0 69).toInt from by first | exact om_a40cdd94799e t90 pq356 | first | omega | ((try (have i_t93 := Imp.go t93 (by omega))); omega)), (show (V339 0 95).toInt = (V 0 95).toInt from by first | exact om_cd7d0a6a31bc t91 pq355 | first | omega | ((try (have i_t93 := Imp.go t93 (by omega))); omega)), (show (V339 0 76).toInt - (V339 0 69).toInt - (V339 0 73).toInt ≤ (V 0 76).toInt - (V 0 69).toInt - (V 0 73).toInt from by first | exact om_93aa01eebf48 t92 hz334 pq354 pq356 pq357 | first | omega | ((try (have i_t93 := Imp.go t93 (by omega))); omega)), (show (V339 63 (Int32.toNatClampNeg p0)).toInt = 2 from by first | exact om_6aa5e6f8c558 pq358 | first | omega | ((try (have i_t93 := Imp.go t93 (by omega))); omega)), (RT.state rt338 hMV335 hV339 (by decide)), (FRM.tr fm337 (FRM.state hV339 (Or.inr ⟨by omega, by show _ ≤ (2 : Int32).toInt; have h9 : (2 : Int32).toInt = 2 := (by decide); omega⟩)) agV335 ⟨rfl, fun _ => rfl, fun _ => rfl, fun _ => rfl, fun _ => rfl, fun _ => rfl, fun _ => rfl⟩ (by (first | exact om_4052a1005a1f t91 pq359 | omega))), rj346, pk361, rp362⟩, by rw [ht]; exact hP, va_K.moved hW.alike hK, hD⟩, hS.F ht⟩) hS.2.2 dX12_closes_136
        · skip
          have f363 : z80.toInt = 0 := b_eq rfl (by decide) c328
          exfalso; first | exact om_caed67118137 q110 f363 | first | omega | ((try (have i_t93 := Imp.go t93 (by omega))); omega)
end
