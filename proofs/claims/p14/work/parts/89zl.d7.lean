/-! getting, making, closing: the machine's steps and the reference's cells -/
section SKs
variable {B : Bk} {m : Mm} {a : Int32} {fs : List Fr} {c sc lv pl : Int} {o : Nat}
theorem sk_p (hp : plc m (bS B c.toNat) sc = pl) (h : pl < 0) : seekM B m a fs c sc lv = mFail m a 0 14 fs := by
  unfold seekM
  rw [hp, if_pos h]
theorem sk_s (hp : plc m (bS B c.toNat) sc = pl) (h : ¬ pl < 0) (q : m 8 (24 * pl.toNat + c.toNat) ≠ 0) : seekM B m a fs c sc lv = mFail m a 0 15 fs := by
  unfold seekM
  rw [hp, if_neg h, if_pos q]
theorem sk_u (hp : plc m (bS B c.toNat) sc = pl) (h : ¬ pl < 0) (q : ¬ m 8 (24 * pl.toNat + c.toNat) ≠ 0) (z : bS B c.toNat ≠ 3) (x : prs m pl c (m 0 2).toNat = (o : Int)) (w : ¬ m 3 o = 1) : seekM B m a fs c sc lv = mFail m a 0 12 fs := by
  unfold seekM
  rw [hp, if_neg h, if_neg q, x, if_pos ⟨z, Int.natCast_nonneg _⟩, if_neg (show ¬ m 3 ((o : Int)).toNat = 1 from w)]
theorem sk_a (hp : plc m (bS B c.toNat) sc = pl) (h : ¬ pl < 0) (q : ¬ m 8 (24 * pl.toNat + c.toNat) ≠ 0) (z : bS B c.toNat ≠ 3) (x : prs m pl c (m 0 2).toNat = (o : Int)) (w : m 3 o = 1) : seekM B m a fs c sc lv = mAns m (nI o) fs := by
  unfold seekM
  rw [hp, if_neg h, if_neg q, x, if_pos ⟨z, Int.natCast_nonneg _⟩, if_pos (show m 3 ((o : Int)).toNat = 1 from w)]
  rfl
theorem sk_m (hp : plc m (bS B c.toNat) sc = pl) (h : ¬ pl < 0) (q : ¬ m 8 (24 * pl.toNat + c.toNat) ≠ 0) (z : bS B c.toNat = 3 ∨ prs m pl c (m 0 2).toNat < 0) : seekM B m a fs c sc lv = makeM m a fs c pl lv := by
  unfold seekM
  rw [hp, if_neg h, if_neg q, if_neg (fun y => by
    rcases z with z | z
    · exact y.1 z
    · have := y.2
      omega)]
theorem prs_b : ∀ (n : Nat) (o : Nat), prs m pl c n = (o : Int) → o < n ∧ m 1 o = c ∧ m 2 o = pl ∧ m 3 o < 2
  | 0, o, h => by
    have h : (-1 : Int) = (o : Int) := h
    omega
  | n + 1, o, h => by
    by_cases q : m 1 n = c ∧ m 2 n = pl ∧ m 3 n < 2
    · rw [prs_y q.1 q.2.1 q.2.2] at h
      have e : n = o := by omega
      subst e
      exact ⟨by omega, q⟩
    · rw [prs_n q] at h
      have z := prs_b n o h
      exact ⟨by omega, z.2⟩
theorem mk_p (h : ¬ mCan m) : makeM m a fs c pl lv = mSpent m a fs := if_pos h
theorem mk_t (h : mCan m) (q : 300 ≤ m 0 2) : makeM m a fs c pl lv = mFail (mSt m) a 0 16 fs := (if_neg (not_not_intro h)).trans (if_pos q)
theorem mk_g (h : mCan m) (q : ¬ 300 ≤ m 0 2) : makeM m a fs c pl lv = mGo (mNew (mSt m) c pl) a (Fmake lv (m 0 2) c pl 0 0 :: fs) := (if_neg (not_not_intro h)).trans (if_neg q)
end SKs
section MVn
variable {V V1 V2 V3 V4 W : Vf} {sg t k : Int}
theorem mV_join {o q n p r : Nat} {g v : Int32} (e1 : V1 = up2 V 67 p g) (e2 : W = up2 V1 66 r v) (hp : p = 24 * (8 * o + q) + n) (hr : r = 8 * o + q) (hn : (V 66 (8 * o + q)).toInt = (n : Int)) (hv : v.toInt = (n : Int) + 1) : mV W sg t k = mJoin (mV V sg t k) o q g.toInt := by
  have a2 : mV W sg t k = mU (mV V1 sg t k) 6 r v.toInt := mV_up (x := 5) (by decide) rfl e2
  have a1 : mV V1 sg t k = mU (mV V sg t k) 7 p g.toInt := mV_up (x := 6) (by decide) rfl e1
  have n6 : mV V sg t k 6 (8 * o + q) = (n : Int) := hn
  unfold mJoin
  rw [a2, a1, n6, hv, hp, hr]
  rfl
theorem mV_done {o f : Nat} {s1 mk z ov z2 : Int32} (e1 : V1 = up2 V 63 o s1) (e2 : V2 = up2 V1 64 o mk) (e3 : V3 = up2 V2 0 65 z) (e4 : V4 = up2 V3 94 f ov) (e5 : W = up2 V4 0 95 z2) (h1 : s1.toInt = 1) (h2 : mk.toInt = (V 0 65).toInt) (h3 : z.toInt = (V 0 65).toInt + 1) (h4 : ov.toInt = (o : Int)) (h5 : f = (V 0 95).toInt.toNat) (h6 : z2.toInt = (V 0 95).toInt + 1) : mV W sg t k = mDone (mV V sg t k) o := by
  have a5 : mV W sg t k = mU (mV V4 sg t k) 0 4 z2.toInt := mV_n (x := 4) (by decide) rfl e5
  have a4 : mV V4 sg t k = mU (mV V3 sg t k) 5 f ov.toInt := mV_up (x := 4) (by decide) rfl e4
  have a3 : mV V3 sg t k = mU (mV V2 sg t k) 0 3 z.toInt := mV_n (x := 3) (by decide) rfl e3
  have a2 : mV V2 sg t k = mU (mV V1 sg t k) 4 o mk.toInt := mV_up (x := 3) (by decide) rfl e2
  have a1 : mV V1 sg t k = mU (mV V sg t k) 3 o s1.toInt := mV_up (x := 2) (by decide) rfl e1
  have n3 : mV V sg t k 0 3 = (V 0 65).toInt := rfl
  have n4 : mV V sg t k 0 4 = (V 0 95).toInt := rfl
  unfold mDone
  rw [a5, a4, a3, a2, a1, h1, h2, h3, h4, h5, h6, n3, n4]
theorem mV_nt1 {i o : Nat} {w kd z v : Int32} (e1 : V1 = up2 V 74 i w) (e2 : V2 = up2 V1 75 i kd) (e3 : V3 = up2 V2 0 73 z) (e4 : W = up2 V3 63 o v) (hi : i = (V 0 73).toInt.toNat) (hl : (V 0 73).toInt < 300) (hz : z.toInt = (V 0 73).toInt + 1) : mV W sg t k = mU (mNote (mV V sg t k) w.toInt kd.toInt) 3 o v.toInt := by
  have a4 : mV W sg t k = mU (mV V3 sg t k) 3 o v.toInt := mV_up (x := 2) (by decide) rfl e4
  have a3 : mV V3 sg t k = mU (mV V2 sg t k) 0 5 z.toInt := mV_n (x := 5) (by decide) rfl e3
  have a2 : mV V2 sg t k = mU (mV V1 sg t k) 10 i kd.toInt := mV_up (x := 9) (by decide) rfl e2
  have a1 : mV V1 sg t k = mU (mV V sg t k) 9 i w.toInt := mV_up (x := 8) (by decide) rfl e1
  have n5 : mV V sg t k 0 5 = (V 0 73).toInt := rfl
  unfold mNote
  rw [n5, if_pos hl, a4, a3, a2, a1, hz, hi]
theorem mV_nt0 {o : Nat} {x y : Int} {z v : Int32} (e3 : V3 = up2 V 0 73 z) (e4 : W = up2 V3 63 o v) (hl : ¬ (V 0 73).toInt < 300) (hz : z.toInt = (V 0 73).toInt + 1) : mV W sg t k = mU (mNote (mV V sg t k) x y) 3 o v.toInt := by
  have a4 : mV W sg t k = mU (mV V3 sg t k) 3 o v.toInt := mV_up (x := 2) (by decide) rfl e4
  have a3 : mV V3 sg t k = mU (mV V sg t k) 0 5 z.toInt := mV_n (x := 5) (by decide) rfl e3
  have n5 : mV V sg t k 0 5 = (V 0 73).toInt := rfl
  unfold mNote
  rw [n5, if_neg hl, a4, a3, hz]
/-- a new object -/
theorem mV_new {o : Nat} {c pl : Int} (an : agr [(0, 60)] [61, 62, 63, 66] V W) (ho : (V 0 60).toInt = (o : Int)) (h60 : (W 0 60).toInt = (V 0 60).toInt + 1) (f61 : ∀ x, x ≠ o → W 61 x = V 61 x) (n61 : (W 61 o).toInt = c) (f62 : ∀ x, x ≠ o → W 62 x = V 62 x) (n62 : (W 62 o).toInt = pl) (f63 : ∀ x, x ≠ o → W 63 x = V 63 x) (n63 : (W 63 o).toInt = 0) (f66 : ∀ x, x < 8 * o ∨ 8 * o + 8 ≤ x → W 66 x = V 66 x) (n66 : ∀ q, q < 8 → (W 66 (8 * o + q)).toInt = 0) : mV W sg t k = mNew (mV V sg t k) c pl := by
  have en : (mV V sg t k 0 2).toNat = o := by
    show (V 0 60).toInt.toNat = o
    omega
  refine mm_ext (fun j => ?_) (fun y j => ?_)
  · unfold mNew
    by_cases q : j = 2
    · subst q
      rw [if_pos ⟨rfl, rfl⟩]
      exact h60
    · rw [if_neg (fun h => q h.2), if_neg (by omega), if_neg (by omega), if_neg (by omega), if_neg (by omega)]
      rcases (show j = 0 ∨ j = 1 ∨ j = 2 ∨ j = 3 ∨ j = 4 ∨ j = 5 ∨ j = 6 ∨ j = 7 ∨ j = 8 ∨ j = 9 ∨ 10 ≤ j from by omega) with e10 | e10 | e10 | e10 | e10 | e10 | e10 | e10 | e10 | e10 | e10
      · subst e10
        rw [mV_00, mV_00]
        exact congrArg Int32.toInt (an 0 68 rfl)
      · subst e10
        rw [mV_01, mV_01]
        exact congrArg Int32.toInt (an 0 69 rfl)
      · subst e10
        exact absurd rfl q
      · subst e10
        rw [mV_03, mV_03]
        exact congrArg Int32.toInt (an 0 65 rfl)
      · subst e10
        rw [mV_04, mV_04]
        exact congrArg Int32.toInt (an 0 95 rfl)
      · subst e10
        rw [mV_05, mV_05]
        exact congrArg Int32.toInt (an 0 73 rfl)
      · subst e10
        rw [mV_06, mV_06]
      · subst e10
        rw [mV_07, mV_07]
      · subst e10
        rw [mV_08, mV_08]
      · subst e10
        rw [mV_09, mV_09]
      · obtain ⟨y10, rfl⟩ : ∃ y, j = y + 10 := ⟨j - 10, by omega⟩
        rw [mV_0x, mV_0x]
  · unfold mNew
    rw [en, if_neg (show ¬ (y + 1 = 0 ∧ j = 2) from by omega)]
    by_cases c1 : y + 1 = 1 ∧ j = o
    · rw [if_pos c1, show y = 0 from by omega, c1.2]
      exact n61
    · rw [if_neg c1]
      by_cases c2 : y + 1 = 2 ∧ j = o
      · rw [if_pos c2, show y = 1 from by omega, c2.2]
        exact n62
      · rw [if_neg c2]
        by_cases c3 : y + 1 = 3 ∧ j = o
        · rw [if_pos c3, show y = 2 from by omega, c3.2]
          exact n63
        · rw [if_neg c3]
          by_cases c4 : y + 1 = 6 ∧ 8 * o ≤ j ∧ j < 8 * o + 8
          · rw [if_pos c4, show y = 5 from by omega]
            have z := n66 (j - 8 * o) (by omega)
            rw [show 8 * o + (j - 8 * o) = j from by omega] at z
            exact z
          · rw [if_neg c4]
            by_cases hy : y < 13
            · rw [mV_row hy, mV_row hy]
              refine congrArg Int32.toInt ?_
              rcases (show y = 0 ∨ y = 1 ∨ y = 2 ∨ y = 5 ∨ (y ≠ 0 ∧ y ≠ 1 ∧ y ≠ 2 ∧ y ≠ 5) from by omega) with h | h | h | h | h
              · subst h
                exact f61 j (by omega)
              · subst h
                exact f62 j (by omega)
              · subst h
                exact f63 j (by omega)
              · subst h
                exact f66 j (by omega)
              · rcases (show y = 3 ∨ y = 4 ∨ y = 6 ∨ y = 7 ∨ y = 8 ∨ y = 9 ∨ y = 10 ∨ y = 11 ∨ y = 12 from by omega) with e | e | e | e | e | e | e | e | e <;> (subst e; exact an _ _ rfl)
            · rw [mV_big (by omega), mV_big (by omega)]
theorem mab_n {B : Bk} {o : Nat} {o9 c pl : Int} {v : Int32} (e : W = up2 V 63 o v) (hv : v.toInt = 2) (ho : o9.toNat = o) (h : ¬ (sg = 2 ∧ bS B c.toNat ≠ 3 ∧ k ≠ 12 ∧ k ≠ 13 ∧ k ≠ 16)) : mAb B (mV V sg t k) o9 c pl = mV W sg t k := by
  have a1 : mV W sg t k = mU (mV V sg t k) 3 o v.toInt := mV_up (x := 2) (by decide) rfl e
  unfold mAb
  rw [if_neg (show ¬ (mV V sg t k 0 6 = 2 ∧ bS B c.toNat ≠ 3 ∧ mV V sg t k 0 9 ≠ 12 ∧ mV V sg t k 0 9 ≠ 13 ∧ mV V sg t k 0 9 ≠ 16) from h), a1, hv, ho]
theorem mab_y {B : Bk} {o i : Nat} {o9 c pl : Int} {v u : Int32} (e : V1 = up2 V 63 o v) (e2 : W = up2 V1 59 i u) (hv : v.toInt = 2) (hu : u.toInt = 1) (ho : o9.toNat = o) (hi : i = 24 * pl.toNat + c.toNat) (h : sg = 2 ∧ bS B c.toNat ≠ 3 ∧ k ≠ 12 ∧ k ≠ 13 ∧ k ≠ 16) : mAb B (mV V sg t k) o9 c pl = mV W sg t k := by
  have a1 : mV V1 sg t k = mU (mV V sg t k) 3 o v.toInt := mV_up (x := 2) (by decide) rfl e
  have a2 : mV W sg t k = mU (mV V1 sg t k) 8 i u.toInt := mV_up (x := 7) (by decide) rfl e2
  unfold mAb
  rw [if_pos (show mV V sg t k 0 6 = 2 ∧ bS B c.toNat ≠ 3 ∧ mV V sg t k 0 9 ≠ 12 ∧ mV V sg t k 0 9 ≠ 13 ∧ mV V sg t k 0 9 ≠ 16 from h), a2, a1, hv, hu, ho, hi]
end MVn
/-! the next CANDIDATE -/
theorem nxC_f {B : Bk} {c : Nat} : ∀ (f ps it : Nat), 8 ≤ f + ps → nxC B c (f + 1) ps it = nxC B c (f + 2) ps it
  | 0, ps, it, h => by
    unfold nxC
    rw [if_pos (Or.inr (by omega)), if_pos (Or.inr (by omega))]
  | f + 1, ps, it, h => by
    have z := nxC_f (B := B) (c := c) f (ps + 1) 0 (by omega)
    unfold nxC
    by_cases q : bN B c ≤ ps ∨ 8 ≤ ps
    · rw [if_pos q, if_pos q]
    · rw [if_neg q, if_neg q]
      cases (if bK B c ps = 1 then [] else bC B c ps).find? (fun d => decide (it ≤ d ∧ d < 24)) with
      | some d => rfl
      | none => exact z
/-- none left of this need -/
theorem nxC_n {B : Bk} {c ps it : Nat} (h : ps < bN B c) (h8 : ps < 8) (e : (if bK B c ps = 1 then [] else bC B c ps).find? (fun d => decide (it ≤ d ∧ d < 24)) = none) : nxC B c 9 ps it = nxC B c 9 (ps + 1) 0 := by
  have z := nxC_f (B := B) (c := c) 7 (ps + 1) 0 (by omega)
  show nxC B c (8 + 1) ps it = _
  unfold nxC
  rw [if_neg (by omega), e]
  exact z
theorem nxC_l {B : Bk} {c ps it : Nat} (h : ps < bN B c) (h8 : ps < 8) (l : bK B c ps = 1) : nxC B c 9 ps it = nxC B c 9 (ps + 1) 0 := nxC_n h h8 (by rw [if_pos l]; rfl)
theorem nxC_e {B : Bk} {c ps it : Nat} (h : bN B c ≤ ps) : nxC B c 9 ps it = none := by
  show nxC B c (8 + 1) ps it = _
  unfold nxC
  rw [if_pos (Or.inl h)]
section NXs
variable {B : Bk} {c ps it m9 : Nat}
theorem fdC_y {P Q : Nat → Bool} : ∀ (n : Nat), it < n → P it = true → (∀ d, Q d = decide (it ≤ d ∧ d < 24)) → it < 24 → ((List.range n).filter P).find? Q = some it
  | 0, h, _, _, _ => absurd h (Nat.not_lt_zero _)
  | n + 1, h, hp, hq, h24 => by
    rw [List.range_succ, List.filter_append, List.find?_append]
    by_cases e : it = n
    · subst e
      have z : ((List.range it).filter P).find? Q = none := List.find?_eq_none.mpr (fun x hx => by
        rw [hq x]
        have := List.mem_range.mp (List.mem_filter.mp hx).1
        intro w
        have := of_decide_eq_true w
        omega)
      rw [z, List.filter_cons_of_pos hp]
      show List.find? Q (it :: _) = some it
      rw [List.find?_cons_of_pos (by rw [hq]; exact decide_eq_true ⟨Nat.le_refl _, h24⟩)]
    · rw [fdC_y n (by omega) hp hq h24]
      rfl
theorem fdC_s {P : Nat → Bool} {n : Nat} (h : P it = false) : ((List.range n).filter P).find? (fun d => decide (it ≤ d ∧ d < 24)) = ((List.range n).filter P).find? (fun d => decide (it + 1 ≤ d ∧ d < 24)) := by
  have z : ∀ l : List Nat, (∀ x, x ∈ l → P x = true) → l.find? (fun d => decide (it ≤ d ∧ d < 24)) = l.find? (fun d => decide (it + 1 ≤ d ∧ d < 24)) := by
    intro l
    induction l with
    | nil => intro _; rfl
    | cons x l ih =>
      intro hx
      have hx0 := hx x (List.mem_cons_self ..)
      have e : x ≠ it := fun q => by rw [q, h] at hx0; cases hx0
      have i2 := ih (fun y hy => hx y (List.mem_cons_of_mem _ hy))
      by_cases q : it + 1 ≤ x ∧ x < 24
      · rw [List.find?_cons_of_pos (by exact decide_eq_true (show it ≤ x ∧ x < 24 by omega)), List.find?_cons_of_pos (by exact decide_eq_true q)]
      · rw [List.find?_cons_of_neg (by intro w; have := of_decide_eq_true w; omega), List.find?_cons_of_neg (by intro w; exact q (of_decide_eq_true w)), i2]
  exact z _ (fun x hx => (List.mem_filter.mp hx).2)
end NXs
/-! objects under way: what they keep, joined by joined -/
theorem CMPo.cg {V W : Vf} {B : Bk} {o : Nat} (h : CMPo V B o) (bk : BKm V B) (hc : Int32.toNatClampNeg (V 61 o) < nC B) (e61 : W 61 o = V 61 o) (e66 : ∀ k, k < 8 → bK B (Int32.toNatClampNeg (V 61 o)) k ≠ 1 → W 66 (8 * o + k) = V 66 (8 * o + k)) : CMPo W B o := by
  unfold CMPo
  rw [e61]
  intro k hk hl
  have n8 := (bk.2.2.2.1.2.2 _ hc).2.2.1
  rw [e66 k (by unfold bN at hk; omega) hl]
  exact h k hk hl
section RJs
variable {V W : Vf} {B : Bk}
theorem RTn0 {o : Nat} (rt : RT V) (bk : BKm V B) (ho : (o : Int) < (V 0 60).toInt) : Int32.toNatClampNeg (V 61 o) < nC B := by
  have z := (rt.2.2.1 o ho).1
  rw [bk.2.2.2.1.1] at z
  omega
theorem bN8 {c : Nat} (bk : BKm V B) (hc : c < nC B) : bN B c ≤ 8 := by
  have n8 := (bk.2.2.2.1.2.2 _ hc).2.2.1
  unfold bN
  omega
theorem RJm.new {o : Nat} (h : RJm V B) (hM : rgd bM V) (rt : RT V) (bk : BKm V B) (h60 : (W 0 60).toInt = (V 0 60).toInt + 1) (ho : (o : Int) = (V 0 60).toInt) (e95 : W 0 95 = V 0 95) (e94 : ∀ i, W 94 i = V 94 i) (e67 : ∀ i, W 67 i = V 67 i) (f61 : ∀ x, x ≠ o → W 61 x = V 61 x) (hn : Int32.toNatClampNeg (W 61 o) < nC B) (f63 : ∀ x, x ≠ o → W 63 x = V 63 x) (n63 : (W 63 o).toInt = 0) (f66 : ∀ x, x < 8 * o ∨ 8 * o + 8 ≤ x → W 66 x = V 66 x) (n66 : ∀ k, k < 8 → (W 66 (8 * o + k)).toInt = 0) : RJm W B := by
  refine ⟨fun x k hx hk hl => ?_, fun x k i hx hk hi => ?_, fun x hx hs => ?_, fun i hi => ?_⟩
  · by_cases e : x = o
    · rw [e] at hk ⊢
      have k8 := bN8 bk hn
      rw [n66 k (by omega)]
      exact ⟨by omega, fun q => by omega⟩
    · rw [f61 x e] at hk hl ⊢
      have k8 := bN8 bk (RTn0 rt bk (o := x) (by omega))
      rw [f66 _ (by omega)]
      exact h.1 x k (by omega) hk hl
  · by_cases e : x = o
    · rw [e, n66 k hk] at hi
      omega
    · rw [f66 _ (by omega)] at hi
      rw [e67]
      have z := rt.2.2.2.1 x k i (by omega) hk hi
      have z0 : 0 ≤ (V 67 (24 * (8 * x + k) + i)).toInt := (hM 67 _).1
      have zc := i_clamp (x := V 67 (24 * (8 * x + k) + i)) rfl z0
      rw [f63 _ (by omega)]
      exact h.2.1 x k i (by omega) hk hi
  · by_cases e : x = o
    · rw [e, n63] at hs
      omega
    · rw [f63 x e] at hs
      exact (h.2.2.1 x (by omega) hs).cg bk (RTn0 rt bk (by omega)) (f61 x e) (fun k hk _ => f66 _ (by omega))
  · rw [e95] at hi
    rw [e94]
    have z := (rt.2.2.2.2 i hi).1
    have z0 : 0 ≤ (V 94 i).toInt := (hM 94 _).1
    have zc := i_clamp (x := V 94 i) rfl z0
    have e : Int32.toNatClampNeg (V 94 i) ≠ o := by omega
    exact (h.2.2.2 i hi).cg bk (RTn0 rt bk (by omega)) (f61 _ e) (fun k hk _ => f66 _ (by omega))
theorem RJm.join {V1 : Vf} {o k p r : Nat} {g v : Int32} (h : RJm V B) (hM : rgd bM V) (rt : RT V) (bk : BKm V B) (e1 : V1 = up2 V 67 p g) (e2 : W = up2 V1 66 r v) (hr : r = 8 * o + k) (hp : (p : Int) = 24 * (8 * (o : Int) + k) + (V 66 (8 * o + k)).toInt) (hk : k < 8) (hv : v.toInt = (V 66 (8 * o + k)).toInt + 1) (h24 : (V 66 (8 * o + k)).toInt ≤ 23) (hg : 1 ≤ (V 63 (Int32.toNatClampNeg g)).toInt) (hx : bK B (Int32.toNatClampNeg (V 61 o)) k = 1 ∨ (V 63 o).toInt = 0) (hl1 : bK B (Int32.toNatClampNeg (V 61 o)) k = 1 → v.toInt ≤ 1 ∧ (v.toInt = 1 → bS B ((bC B (Int32.toNatClampNeg (V 61 o)) k).headD 0) = 3)) : RJm W B := by
  have a : agr [] [66, 67] V W := agr.up (agr.up agr.rf e1 rfl) e2 rfl
  have h0 : 0 ≤ (V 66 (8 * o + k)).toInt := (hM 66 _).1
  have e66 : ∀ x, x ≠ r → W 66 x = V 66 x := fun x hx => (up2_k e2 hx).trans (up2_o e1 (by decide))
  have cm : ∀ x, CMPo V B x → Int32.toNatClampNeg (V 61 x) < nC B → (x = o → bK B (Int32.toNatClampNeg (V 61 o)) k = 1) → CMPo W B x := fun x hc hn hq => hc.cg bk hn (a 61 _ rfl) (fun k' hk' hl' => e66 _ (fun e => by
    have x1 : x = o := by omega
    have k1 : k' = k := by omega
    rw [x1, k1] at hl'
    exact hl' (hq x1)))
  refine ⟨fun x k' hx' hk' hl' => ?_, fun x k' i hx' hk' hi => ?_, fun x hx' hs => ?_, fun i hi => ?_⟩
  · rw [a 0 60 rfl] at hx'
    rw [a 61 _ rfl] at hk' hl' ⊢
    have k8 := bN8 bk (RTn0 rt bk (o := x) hx')
    by_cases e : 8 * x + k' = r
    · have x1 : x = o := by omega
      have k1 : k' = k := by omega
      subst x1
      subst k1
      rw [e, up2_s e2]
      exact hl1 hl'
    · rw [e66 _ e]
      exact h.1 x k' hx' hk' hl'
  · rw [a 0 60 rfl] at hx'
    have e67 : W 67 (24 * (8 * x + k') + i) = V1 67 (24 * (8 * x + k') + i) := up2_o e2 (by decide)
    rw [e67, a 63 _ rfl]
    by_cases e : 8 * x + k' = r
    · rw [e, up2_s e2] at hi
      by_cases hi2 : 24 * (8 * x + k') + i = p
      · rw [hi2, up2_s e1]
        exact hg
      · rw [up2_k e1 hi2]
        have e3 : 8 * x + k' = 8 * o + k := by omega
        exact h.2.1 x k' i hx' hk' (by rw [e3]; omega)
    · rw [e66 _ e] at hi
      have hb : (V 66 (8 * x + k')).toInt ≤ 24 := (hM 66 _).2
      rw [up2_k e1 (by omega)]
      exact h.2.1 x k' i hx' hk' hi
  · rw [a 0 60 rfl] at hx'
    rw [a 63 _ rfl] at hs
    exact cm x (h.2.2.1 x hx' hs) (RTn0 rt bk hx') (fun e => by
      rcases hx with q | q
      · exact q
      · rw [e] at hs
        omega)
  · rw [a 0 95 rfl] at hi
    rw [a 94 _ rfl]
    have z := rt.2.2.2.2 i hi
    have z0 : 0 ≤ (V 94 i).toInt := (hM 94 _).1
    have zc := i_clamp (x := V 94 i) rfl z0
    exact cm _ (h.2.2.2 i hi) (RTn0 rt bk (by omega)) (fun e => by
      rcases hx with q | q
      · exact q
      · have z2 := z.2
        rw [e] at z2
        omega)
theorem RJm.st {o : Nat} {v : Int32} (h : RJm V B) (e : W = up2 V 63 o v) (hv : 1 ≤ v.toInt) (hc : v.toInt = 1 → CMPo V B o) : RJm W B := by
  have a : agr [] [63] V W := agr.up agr.rf e rfl
  have cm : ∀ x, CMPo V B x → CMPo W B x := fun x hx => by
    unfold CMPo at hx ⊢
    rw [a 61 _ rfl]
    intro k
    rw [a 66 _ rfl]
    exact hx k
  refine ⟨fun x k hx hk hl => ?_, fun x k i hx hk hi => ?_, fun x hx hs => ?_, fun i hi => ?_⟩
  · rw [a 0 60 rfl] at hx
    rw [a 61 _ rfl] at hk hl ⊢
    rw [a 66 _ rfl]
    exact h.1 x k hx hk hl
  · rw [a 0 60 rfl] at hx
    rw [a 66 _ rfl] at hi
    rw [a 67 _ rfl]
    by_cases q : Int32.toNatClampNeg (V 67 (24 * (8 * x + k) + i)) = o
    · rw [q, up2_s e]
      exact hv
    · rw [up2_k e q]
      exact h.2.1 x k i hx hk hi
  · rw [a 0 60 rfl] at hx
    by_cases q : x = o
    · rw [q, up2_s e] at hs
      rw [q]
      exact cm _ (hc hs)
    · rw [up2_k e q] at hs
      exact cm _ (h.2.2.1 x hx hs)
  · rw [a 0 95 rfl] at hi
    rw [a 94 _ rfl]
    exact cm _ (h.2.2.2 i hi)
theorem RJm.more {V1 : Vf} {k : Nat} {ov z : Int32} (h : RJm V B) (e1 : V1 = up2 V 94 k ov) (e2 : W = up2 V1 0 95 z) (hk : (k : Int) = (V 0 95).toInt) (hz : z.toInt = (V 0 95).toInt + 1) (hc : CMPo V B (Int32.toNatClampNeg ov)) : RJm W B := by
  have a : agr [(0, 95)] [94] V W := agr.up (agr.up agr.rf e1 rfl) e2 rfl
  have cm : ∀ x, CMPo V B x → CMPo W B x := fun x hx => by
    unfold CMPo at hx ⊢
    rw [a 61 _ rfl]
    intro k
    rw [a 66 _ rfl]
    exact hx k
  refine ⟨fun x k hx hk hl => ?_, fun x k i hx hk hi => ?_, fun x hx hs => ?_, fun i hi => ?_⟩
  · rw [a 0 60 rfl] at hx
    rw [a 61 _ rfl] at hk hl ⊢
    rw [a 66 _ rfl]
    exact h.1 x k hx hk hl
  · rw [a 0 60 rfl] at hx
    rw [a 66 _ rfl] at hi
    rw [a 67 _ rfl, a 63 _ rfl]
    exact h.2.1 x k i hx hk hi
  · rw [a 0 60 rfl] at hx
    rw [a 63 _ rfl] at hs
    exact cm _ (h.2.2.1 x hx hs)
  · rw [up2_s e2] at hi
    have e94 : W 94 i = V1 94 i := up2_o e2 (by decide)
    rw [e94]
    by_cases q : i = k
    · rw [q, up2_s e1]
      exact cm _ hc
    · rw [up2_k e1 q]
      exact cm _ (h.2.2.2 i (by omega))
theorem agr.d95 {fs : List (Nat × Nat)} {cs : List Nat} {V W : Vf} (a : agr fs cs V W) (e : (W 0 95).toInt = (V 0 95).toInt) : agr (fs.filter (fun y => y != (0, 95))) cs V W := by
  intro c k q
  by_cases h : (c, k) = ((0, 95) : Nat × Nat)
  · have h1 : c = 0 := congrArg Prod.fst h
    have h2 : k = 95 := congrArg Prod.snd h
    subst h1
    subst h2
    exact Int32.toInt_inj.mp e
  · refine a c k ?_
    unfold wrL at q ⊢
    rw [Bool.or_eq_false_iff] at q ⊢
    refine ⟨?_, q.2⟩
    cases z : fs.contains (c, k) with
    | false => rfl
    | true =>
      have m1 : (c, k) ∈ fs := List.contains_iff_mem.mp z
      have m2 : (c, k) ∈ fs.filter (fun y => y != (0, 95)) := List.mem_filter.mpr ⟨m1, bne_iff_ne.mpr h⟩
      have m3 := List.contains_iff_mem.mpr m2
      rw [q.1] at m3
      exact absurd m3 (by decide)
theorem RJm.few {v : Int32} (h : RJm V B) (e : W = up2 V 0 95 v) (hv : v.toInt ≤ (V 0 95).toInt) : RJm W B := by
  have a : agr [(0, 95)] [] V W := agr.up agr.rf e rfl
  have cm : ∀ x, CMPo V B x → CMPo W B x := fun x hx => by
    unfold CMPo at hx ⊢
    rw [a 61 _ rfl]
    intro k
    rw [a 66 _ rfl]
    exact hx k
  refine ⟨fun x k hx hk hl => ?_, fun x k i hx hk hi => ?_, fun x hx hs => ?_, fun i hi => ?_⟩
  · rw [a 0 60 rfl] at hx
    rw [a 61 _ rfl] at hk hl ⊢
    rw [a 66 _ rfl]
    exact h.1 x k hx hk hl
  · rw [a 0 60 rfl] at hx
    rw [a 66 _ rfl] at hi
    rw [a 67 _ rfl, a 63 _ rfl]
    exact h.2.1 x k i hx hk hi
  · rw [a 0 60 rfl] at hx
    rw [a 63 _ rfl] at hs
    exact cm _ (h.2.2.1 x hx hs)
  · rw [up2_s e] at hi
    rw [a 94 _ rfl]
    exact cm _ (h.2.2.2 i (by omega))
/-- how many were made for it: set to what it is -/
theorem mV_95 {sg t k : Int} {v : Int32} (e : W = up2 V 0 95 v) : mV W sg t k = mU (mV V sg t k) 0 4 v.toInt := mV_n (x := 4) (by decide) rfl e
end RJs
/-! the next CANDIDATE, by what the reference asks -/
def cdB (B : Bk) (c ps : Nat) : Nat → Bool := cdP B.1.1 (svB B) (B.1.1 (301 + 32 * c + 4 * ps)) (B.1.1 (300 + 32 * c + 4 * ps)) (B.1.1 (302 + 32 * c + 4 * ps)) (B.1.2.1 2).length
/-- how many below n -/
def cdN (B : Bk) (c ps n : Nat) : Nat := ((List.range n).filter (cdB B c ps)).length
theorem cdN_y {B : Bk} {c ps n : Nat} (h : cdB B c ps n = true) : cdN B c ps (n + 1) = cdN B c ps n + 1 := by
  unfold cdN
  rw [List.range_succ, List.filter_append, List.filter_cons_of_pos h, List.length_append]
  rfl
theorem cdN_n {B : Bk} {c ps n : Nat} (h : cdB B c ps n = false) : cdN B c ps (n + 1) = cdN B c ps n := by
  unfold cdN
  rw [List.range_succ, List.filter_append, List.filter_cons_of_neg (by rw [h]; exact Bool.false_ne_true)]
  exact congrArg List.length (List.append_nil _)
theorem bC_mem {B : Bk} {c ps d : Nat} (hd : d < nC B) (h : cdB B c ps d = true) : d ∈ bC B c ps := List.mem_filter.mpr ⟨List.mem_range.mpr hd, h⟩
theorem nxC_y {B : Bk} {c ps it : Nat} (h : ps < bN B c) (h8 : ps < 8) (l : bK B c ps ≠ 1) (hi : it < nC B) (h24 : it < 24) (q : cdB B c ps it = true) : nxC B c 9 ps it = some (ps, it) := by
  have z : (bC B c ps).find? (fun d => decide (it ≤ d ∧ d < 24)) = some it := fdC_y (P := cdB B c ps) (nC B) hi q (fun _ => rfl) h24
  show nxC B c (8 + 1) ps it = _
  unfold nxC
  rw [if_neg (by omega), if_neg l, z]
theorem nxC_s {B : Bk} {c ps it : Nat} (h : ps < bN B c) (h8 : ps < 8) (q : cdB B c ps it = false) : nxC B c 9 ps it = nxC B c 9 ps (it + 1) := by
  have z : (bC B c ps).find? (fun d => decide (it ≤ d ∧ d < 24)) = (bC B c ps).find? (fun d => decide (it + 1 ≤ d ∧ d < 24)) := fdC_s (P := cdB B c ps) (n := nC B) q
  show nxC B c (8 + 1) ps it = nxC B c (8 + 1) ps (it + 1)
  unfold nxC
  have n9 : ¬ (bN B c ≤ ps ∨ 8 ≤ ps) := by omega
  by_cases l : bK B c ps = 1
  · rw [if_neg n9, if_pos l, if_neg n9]
    rfl
  · rw [if_neg n9, if_neg l, if_neg n9, z]
theorem nxC_x {B : Bk} {c ps it : Nat} (h : ps < bN B c) (h8 : ps < 8) (hi : nC B ≤ it) : nxC B c 9 ps it = nxC B c 9 (ps + 1) 0 := nxC_n h h8 (by
  by_cases l : bK B c ps = 1
  · rw [if_pos l]
    rfl
  · rw [if_neg l]
    refine List.find?_eq_none.mpr (fun x hx => ?_)
    have y : x < nC B := List.mem_range.mp (List.mem_filter.mp (show x ∈ (List.range (nC B)).filter (cdB B c ps) from hx)).1
    intro w
    have := of_decide_eq_true w
    omega)
/-! a making, need by need -/
def JPD (B : Bk) (x : MS) (W : Vf) (r : List Fr) (lv o c pl : Int) (p q : Nat) : Prop := ∃ m a ps it sg t k, TRs B x (m, a, Fmake lv o c pl ps it :: r) ∧ (sg = 0 ∨ sg = 1) ∧ m 0 6 = sg ∧ (if m 0 6 = 1 then mJoin m o.toNat ps.toNat a.toInt else m) = mV W sg t k ∧ (m 0 3 = (W 0 65).toInt ∧ m 0 4 = (W 0 95).toInt) ∧ (sg = 1 → (0 ≤ ps ∧ ps ≤ 7) ∧ 0 ≤ m 6 (8 * o.toNat + ps.toNat) ∧ m 6 (8 * o.toNat + ps.toNat) ≤ 23) ∧ nxC B c.toNat 9 ps.toNat it.toNat = nxC B c.toNat 9 p q
section JPs
variable {B : Bk} {x : MS} {V W : Vf} {r : List Fr} {lv o c pl : Int} {p q : Nat}
theorem JPD.mv {p2 q2 : Nat} (h : JPD B x V r lv o c pl p q) (hm : ∀ sg t k, mV W sg t k = mV V sg t k) (e1 : W 0 65 = V 0 65) (e2 : W 0 95 = V 0 95) (n : nxC B c.toNat 9 p q = nxC B c.toNat 9 p2 q2) : JPD B x W r lv o c pl p2 q2 := by
  obtain ⟨m, a, ps, it, sg, t, k, h1, h2, h3, h4, h5, h6, h7⟩ := h
  exact ⟨m, a, ps, it, sg, t, k, h1, h2, h3, by rw [hm]; exact h4, by rw [e1, e2]; exact h5, h6, h7.trans n⟩
theorem JPD.st0 {t k : Int} {a : Int32} (h : TRs B x (mV W 0 t k, a, Fmake lv o c pl 0 0 :: r)) : JPD B x W r lv o c pl 0 0 :=
  ⟨mV W 0 t k, a, 0, 0, 0, t, k, h, Or.inl rfl, rfl, if_neg (show ¬ (0 : Int) = 1 by decide), ⟨rfl, rfl⟩, fun h9 => absurd h9 (by decide), rfl⟩
/-- one was got: it waits to be joined -/
theorem JPD.st1 {t k : Int} {a : Int32} {p8 it : Nat} (h : TRs B x (mV V 1 t k, a, Fmake lv o c pl (p8 : Int) (it : Int) :: r)) (hp : p8 ≤ 7) (h6 : 0 ≤ (V 66 (8 * o.toNat + p8)).toInt ∧ (V 66 (8 * o.toNat + p8)).toInt ≤ 23) (hj : mV W 1 t k = mJoin (mV V 1 t k) o.toNat p8 a.toInt) (e1 : W 0 65 = V 0 65) (e2 : W 0 95 = V 0 95) : JPD B x W r lv o c pl p8 it :=
  ⟨mV V 1 t k, a, (p8 : Int), (it : Int), 1, t, k, h, Or.inr rfl, rfl, (if_pos (show (1 : Int) = 1 from rfl)).trans hj.symm, by rw [e1, e2]; exact ⟨rfl, rfl⟩, fun _ => ⟨⟨Int.natCast_nonneg _, by omega⟩, h6⟩, rfl⟩
theorem JPD.sf (h : JPD B x W r lv o c pl p q) (h1 : r.length ≤ 394) (h2 : totP r ≤ 2000) (h3 : 0 ≤ (W 0 65).toInt ∧ (W 0 65).toInt ≤ 300) (h4 : (W 0 95).toInt ≤ 299) (h0 : (W 63 o.toNat).toInt = 0) : ∃ m a ps it sg t k, TRs B x (m, a, Fmake lv o c pl ps it :: r) ∧ SF B (m, a, Fmake lv o c pl ps it :: r) ∧ (sg = 0 ∨ sg = 1) ∧ ¬ (m 0 6 = 2 ∨ m 0 6 = 3) ∧ (if m 0 6 = 1 then mJoin m o.toNat ps.toNat a.toInt else m) = mV W sg t k ∧ nxC B c.toNat 9 ps.toNat it.toNat = nxC B c.toNat 9 p q := by
  obtain ⟨m, a, ps, it, sg, t, k, q1, q2, q3, q4, q5, q6, q7⟩ := h
  have e3 : m 3 o.toNat = 0 := by
    have z : (if m 0 6 = 1 then mJoin m o.toNat ps.toNat a.toInt else m) 3 o.toNat = (W 63 o.toNat).toInt := by rw [q4]; rfl
    have y : (if m 0 6 = 1 then mJoin m o.toNat ps.toNat a.toInt else m) 3 o.toNat = m 3 o.toNat := by
      split
      · unfold mJoin
        rw [mU_o _ _ (by omega), mU_o _ _ (by omega)]
      · rfl
    rw [← y, z, h0]
  refine ⟨m, a, ps, it, sg, t, k, q1, SF.mk h1 (show 0 + totP r ≤ 2000 by omega) (by rw [q5.1]; exact h3) (fun h9 => by omega) (show m 0 4 ≤ 299 ∧ (m 0 6 = 1 → (0 ≤ ps ∧ ps ≤ 7) ∧ 0 ≤ m 6 (8 * o.toNat + ps.toNat) ∧ m 6 (8 * o.toNat + ps.toNat) ≤ 23) ∧ m 3 o.toNat = 0 from ⟨by rw [q5.2]; exact h4, fun h9 => q6 (by omega), e3⟩), q2, by omega, q4, q7⟩
theorem JPD.go {y : Nat × Nat} (h : JPD B x W r lv o c pl p q) (h1 : r.length ≤ 394) (h2 : totP r ≤ 2000) (h3 : 0 ≤ (W 0 65).toInt ∧ (W 0 65).toInt ≤ 300) (h4 : (W 0 95).toInt ≤ 299) (h0 : (W 63 o.toNat).toInt = 0) (e : nxC B c.toNat 9 p q = some y) : ∃ sg t k a, (sg = 0 ∨ sg = 1) ∧ TRs B x (seekM B (mV W sg t k) a (Fmake lv o c pl (y.1 : Int) ((y.2 + 1 : Nat) : Int) :: r) (y.2 : Int) pl lv) := by
  obtain ⟨m, a, ps, it, sg, t, k, q1, qs, q2, q3, q4, q7⟩ := h.sf h1 h2 h3 h4 h0
  refine ⟨sg, t, k, a, q2, ?_⟩
  have z := q1.st qs (st_3s q3 (q7.trans e))
  rw [q4] at z
  exact z
theorem JPD.w (h : JPD B x W r lv o c pl p q) (h1 : r.length ≤ 394) (h2 : totP r ≤ 2000) (h3 : 0 ≤ (W 0 65).toInt ∧ (W 0 65).toInt ≤ 300) (h4 : (W 0 95).toInt ≤ 299) (h0 : (W 63 o.toNat).toInt = 0) (e : nxC B c.toNat 9 p q = none) (b : bE B c.toNat 30 ≠ 0) : ∃ t k a, TRs B x (mV W 0 t k, a, Fwork lv o c pl 0 0 ((bE B c.toNat 30 - 1 : Nat) : Int) 0 [] :: Fopen lv o c pl :: r) := by
  obtain ⟨m, a, ps, it, sg, t, k, q1, qs, q2, q3, q4, q7⟩ := h.sf h1 h2 h3 h4 h0
  have z := q1.st qs (st_3w q3 (q7.trans e) b)
  rw [q4, mV_go] at z
  exact ⟨t, k, a, z⟩
theorem JPD.d (h : JPD B x W r lv o c pl p q) (h1 : r.length ≤ 394) (h2 : totP r ≤ 2000) (h3 : 0 ≤ (W 0 65).toInt ∧ (W 0 65).toInt ≤ 300) (h4 : (W 0 95).toInt ≤ 299) (h0 : (W 63 o.toNat).toInt = 0) (e : nxC B c.toNat 9 p q = none) (b : bE B c.toNat 30 = 0) : ∃ sg t k, TRs B x (mAns (mDone (mV W sg t k) o.toNat) (nI o.toNat) r) := by
  obtain ⟨m, a, ps, it, sg, t, k, q1, qs, q2, q3, q4, q7⟩ := h.sf h1 h2 h3 h4 h0
  have z := q1.st qs (st_3d q3 (q7.trans e) b)
  rw [q4] at z
  exact ⟨sg, t, k, z⟩
end JPs
/-- what joining all comes to -/
def JDc (B : Bk) (x : MS) (W : Vf) (r : List Fr) (lv o c pl e bd : Int) : Prop := (e = 0 → ∃ p q, JPD B x W r lv o c pl p q ∧ nxC B c.toNat 9 p q = none) ∧ (e = 1 → ∃ a t k ps it, TRs B x (mV W 2 t k, a, Fmake lv o c pl ps it :: r) ∧ t + 1 = (W 0 90).toInt ∧ k = (W 0 91).toInt ∧ 0 ≤ t ∧ t + 1 ≤ bd) ∧ (e = 2 → ∃ a t k ps it, TRs B x (mV W 3 t k, a, Fmake lv o c pl ps it :: r))
/-- what a closing comes to -/
def DCl (B : Bk) (x : MS) (W : Vf) (r : List Fr) (e : Int) : Prop := ∃ sg t k a, TRs B x (mV W sg t k, a, r) ∧ (e = 1 → sg = 3) ∧ (e = 0 → sg ≠ 3) ∧ (sg = 2 → 0 ≤ t ∧ t ≤ 10000)
theorem nI_cl {x : Int32} (h : 0 ≤ x.toInt) : nI (Int32.toNatClampNeg x) = x := by
  have z := nI_ofz (x := x) rfl h
  exact z
/-- the first CANDIDATE -/
theorem CLV.hd {V : Vf} {c : Nat} {l : List Nat} {n : Int} (h : CLV V c l n) (hl : 1 ≤ l.length) : (V c 0).toInt = ((l.headD 0 : Nat) : Int) := by
  have z := h.2 0 (by omega)
  cases l with
  | nil => cases hl
  | cons y l => exact z
theorem hd_mem {l : List Nat} (h : l.length = 1) : l.headD 0 ∈ l := by
  cases l with
  | nil => cases h
  | cons y l => exact List.mem_cons_self ..
theorem CLV.c0 {V W : Vf} {c : Nat} {l : List Nat} {n : Int} (h : CLV W c l n) (q : n = 0 → W c 0 = V c 0) : W c 0 = V c 0 ∨ ∃ d9 : Nat, (W c 0).toInt = (d9 : Int) ∧ d9 ∈ l := by
  by_cases e : n = 0
  · exact Or.inl (q e)
  · right
    have z := h.1
    have hl : 0 < l.length := by omega
    exact ⟨l[0], h.2 0 hl, List.getElem_mem hl⟩
theorem BKm.thR {V : Vf} {B : Bk} {c : Nat} (h : BKm V B) (wh : WHs B.1) (hn : (B.1.2.1 1).length ≤ 12) (hc : c < nC B) (t : thP B.1.1 (svB B) c = true) : th V c := by
  have k := h.2.2.2.1.2.2 c hc
  have e1 := k.1.2.2.2.2.1
  have e2 := k.1.2.2.2.2.2
  refine ⟨by rw [h.2.2.2.1.1]; omega, ?_⟩
  by_cases q : B.1.1 (64 + 8 * c) = 0
  · left
    omega
  · right
    have w := wh c hc
    have lt : B.1.1 (64 + 8 * c) - 1 < (B.1.2.1 1).length := by omega
    unfold thP at t
    rw [Bool.or_eq_true, beq_iff_eq, beq_iff_eq] at t
    have t2 := t.resolve_left q
    unfold svB at t2
    rw [if_pos lt, ← h.2.2.2.2 _ (by omega), ← e2 q] at t2
    rw [show (V 25 (24 * nwh V + c)).toInt.toNat = B.1.1 (64 + 8 * c) - 1 from by omega]
    exact Int32.toInt_inj.mp t2
/-- whom a need's row begins with, is there -/
theorem c0_of {V W : Vf} {B : Bk} {g : Nat → Nat} {c j : Nat} (bk : BKm V B) (br : BKr B g) (hc : c < nC B) (ht : thP B.1.1 (svB B) c = true) (hj : j < bN B c) (h : W 80 0 = V 80 0 ∨ ∃ d9 : Nat, (W 80 0).toInt = (d9 : Int) ∧ d9 ∈ bC B c j) : c0k V W := by
  rcases h with h | ⟨d, h, m⟩
  · exact Or.inl h
  · right
    have z := (br.2.2.1 c j hc ht hj).2 d m
    have e : cd0 W = d := by
      unfold cd0
      have y := i_clamp (x := W 80 0) rfl (by omega)
      omega
    rw [e]
    exact BKm.thR bk br.2.2.2.2.2.1 br.2.2.2.2.2.2.2.2.1 z.1 z.2.1
/-- opened's E, closed's E -/
theorem BKm.op {V : Vf} {B : Bk} {c : Nat} (h : BKm V B) (hc : c < nC B) : ((V 32 (24 * nwh V + c)).toInt < 0 → bE B c 30 = 0) ∧ (0 ≤ (V 32 (24 * nwh V + c)).toInt → bE B c 30 ≠ 0 ∧ (V 32 (24 * nwh V + c)).toInt = ((10000 * nwh V + (bE B c 30 - 1) : Nat) : Int)) := by
  have z := h.2.1 c hc 30 (by unfold okR; omega)
  unfold cM rgm at z
  rw [if_neg (by decide), if_pos rfl] at z
  rw [bE_i hc (Or.inr (Or.inl rfl))]
  by_cases q : nL B.1 (100 + 32 * c + 30) = 0
  · rw [if_pos q] at z
    exact ⟨fun _ => q, fun h9 => by omega⟩
  · rw [if_neg q] at z
    exact ⟨fun h9 => by omega, fun _ => ⟨q, by omega⟩⟩
theorem BKm.cs {V : Vf} {B : Bk} {c : Nat} (h : BKm V B) (hc : c < nC B) : ((V 33 (24 * nwh V + c)).toInt < 0 → bE B c 31 = 0) ∧ (0 ≤ (V 33 (24 * nwh V + c)).toInt → bE B c 31 ≠ 0 ∧ (V 33 (24 * nwh V + c)).toInt = ((10000 * nwh V + (bE B c 31 - 1) : Nat) : Int)) := by
  have z := h.2.1 c hc 31 (by unfold okR; omega)
  unfold cM rgm at z
  rw [if_neg (by decide), if_neg (by decide)] at z
  rw [bE_i hc (Or.inr (Or.inr rfl))]
  by_cases q : nL B.1 (100 + 32 * c + 31) = 0
  · rw [if_pos q] at z
    exact ⟨fun _ => q, fun h9 => by omega⟩
  · rw [if_neg q] at z
    exact ⟨fun h9 => by omega, fun _ => ⟨q, by omega⟩⟩
theorem mU_id {m : Mm} {c k : Nat} {v : Int} (h : m c k = v) : mU m c k v = m := by
  funext x j
  by_cases q : x = c ∧ j = k
  · rw [q.1, q.2, mU_s, h]
  · rw [mU_o _ _ q]
theorem CMPo.eq {V W : Vf} {B : Bk} {o : Nat} (h : CMPo V B o) (e61 : ∀ k, W 61 k = V 61 k) (e66 : ∀ k, W 66 k = V 66 k) : CMPo W B o := by
  unfold CMPo
  simp only [e61, e66]
  exact h


abbrev r_s_candidatesOf9 : Room := { frames := 2, cells := 0, slots := 0, locals := 45 }
abbrev q_s_candidatesOf9 (D : va_G) (ks : KS) (ad : Nat → Nat) (kk : Nat → ClassId) (V : Vf) (L : Lf) (p0 : Int32) (bq : Nat) (gs : St) (gc : Nat) (gj : Nat) (A : Nat → Prop) : Array Value → State → Outcome → State → Prop := va_Qi (fun (r : Int32) (u : Vf × Lf) => rgd bM u.1 ∧ agr [] [80] V u.1 ∧ u.2 = L ∧ (0 ≤ r.toInt ∧ r.toInt ≤ 24) ∧ (CLV u.1 80 (CLP gs.1 (svm V bq (gs.2.1 1).length) (gs.1 (301 + 32 * gc + 4 * gj)) (gs.1 (300 + 32 * gc + 4 * gj)) (gs.1 (302 + 32 * gc + 4 * gj)) (gs.2.1 2).length (gs.2.1 2).length) r.toInt) ∧ (r.toInt = 0 → u.1 80 0 = V 80 0)) (fun u t => gq D A (mw ad kk ks.1 u.1 u.2) (mty kk) t) A
set_option maxHeartbeats 4000000 in
set_option maxRecDepth 100000 in
theorem s_candidatesOf9 (l : Launch) (D : va_G) (ks : KS) (sz : Nat) (ad : Nat → Nat) (kk : Nat → ClassId) (V : Vf) (L : Lf) (p0 : Int32) (bq : Nat) (gs : St) (gc : Nat) (gj : Nat) (hMV : rgd bM V) (rg_p0 : 0 ≤ p0.toInt ∧ p0.toInt ≤ 383) (zq1 : (bq : Int) = (V 0 11).toInt) (pn : p0.toInt = ((8 * (24 * bq + gc) + gj : Nat) : Int)) (gcl : gc < (gs.2.1 2).length) (gjl : gj < gs.1 (66 + 8 * gc)) (t24 : (gs.1 (300 + 32 * gc + 4 * gj)) < 24) (com : COM V bq gs) (ln : (V 19 bq).toInt = (((gs.2.1 2).length : Nat) : Int)) (wh : WHs gs)  : Met l yX12_candidatesOf (Cond.code yX12_candidatesOf cX12_candidatesOf 5 (some .int) :: GW) r_s_candidatesOf9 (va_Pc [.ref (ad 0), .int p0] (gp D ks (mw ad kk ks.1 V L) (mty kk) sz)) (q_s_candidatesOf9 D ks ad kk V L p0 bq gs gc gj (va_A (mw ad kk ks.1 V L) sz)) 0 0 (va_A (mw ad kk ks.1 V L) sz) := by
  refine g_met (q_s_candidatesOf9 D ks ad kk V L p0 bq gs gc gj) (by decide) (Nat.le_of_ble_eq_true rfl) ?_
  intro p e s m below meth c A ls H locs hx hb hr hml hown hg hlocks hin hnw hgk hP hK hD hS hA hl
  have hown : s.vm.findClass RX12 = some m.cls := hown
  have hl : lv_has ls 5 [(0, .ref (ad 0)), (1, .int p0)] := hl
  have hP : va_P D vwCl (mw ad kk ks.1 V L) H := hP
  have hD : va_D A (mw ad kk ks.1 V L) := hD
  have hK : va_K D vwCl (mty kk) s := hK
  have agV : agr [] [80] V V := agr.rf
  have rf_p0 := i_full p0
  have r1 : 0 ≤ ((V 0 11)).toInt ∧ ((V 0 11)).toInt ≤ 1 := hMV 0 11
  have r2 : 0 ≤ ((V 19 bq)).toInt ∧ ((V 19 bq)).toInt ≤ 24 := hMV 19 bq
  have kb9 : Int32.toNatClampNeg (V 0 11) = bq := by have h9 := i_clamp (x := V 0 11) rfl (by (first | exact om_eafa9039069c r1.1 | omega)); (first | exact om_7d9cc8d6a75e zq1 h9 | omega)
  have q19 : (V 19 (Int32.toNatClampNeg (V 0 11))).toInt = (V 19 bq).toInt := by rw [kb9]
  have kn9 : Int32.toNatClampNeg p0 = 8 * (24 * bq + gc) + gj := by have h9 := i_clamp (x := p0) rfl (by (first | exact om_182388153525 zq1 pn r1.1 | omega)); (first | exact om_36d4c83bf4b2 pn h9 | omega)
  have ne9 := (com gc gcl).2.2.2 gj gjl
  unfold NEm at ne9
  rw [← kn9] at ne9
  have n28 := ne9.1
  have n29 := ne9.2.1
  have n30 := ne9.2.2.1
  have n31 := ne9.2.2.2
  refine lv_iconst (v := 0) hx hb dX12_candidatesOf_0 (by decide) ?_
  refine lv_istore_n (lv' := [(2, .int 0), (0, .ref (ad 0)), (1, .int p0)]) hx hb dX12_candidatesOf_1 rfl hl (by decide) rfl (fun ls hl => ?_)
  refine lv_iconst (v := 0) hx hb dX12_candidatesOf_2 (by decide) ?_
  refine lv_istore_n (lv' := [(3, .int 0), (2, .int 0), (0, .ref (ad 0)), (1, .int p0)]) hx hb dX12_candidatesOf_3 rfl hl (by decide) rfl (fun ls hl => ?_)
  have lp5 : ∀ (fulp5 : Nat) (y3 : Int32) (y4 : Int32) (H : Heap) (locs : List Loc) (ls : Array Slot), 0 ≤ y3.toInt ∧ y3.toInt ≤ 24 → 0 ≤ y4.toInt ∧ y4.toInt ≤ 9 → (y4.toInt = ((bsP gs.1 (svm V bq (gs.2.1 1).length) (gs.1 (300 + 32 * gc + 4 * gj)) (gs.1 (302 + 32 * gc + 4 * gj)) y3.toInt.toNat : Nat) : Int)) → y3.toInt ≤ (((gs.2.1 2).length : Nat) : Int) → 24 - y3.toInt < (fulp5 : Int) → va_P D vwCl (mw ad kk ks.1 V L) H → va_D A (mw ad kk ks.1 V L) → va_S A s.heap H locs → lv_has ls 5 [(3, .int y3), (2, .int y4), (0, .ref (ad 0)), (1, .int p0)] → W p l e r_s_candidatesOf9 s m ([.ref (ad 0), .int p0] : List Value).toArray below meth c H locs 0 0 (MQ below (q_s_candidatesOf9 D ks ad kk V L p0 bq gs gc gj A) ([.ref (ad 0), .int p0] : List Value).toArray s 0 0 A) (F0 m 4 ls []) := by
    intro fulp5
    induction fulp5 with
    | zero =>
      intro y3 y4 H locs ls klp5_0 klp5_1 xlp5_0 xlp5_1 hn  hP hD hS hl
      exfalso; (first | exact om_9386ef0df612 klp5_0.2 hn | omega)
    | succ fulp5 ihlp5 =>
      intro y3 y4 H locs ls klp5_0 klp5_1 xlp5_0 xlp5_1 hn  hP hD hS hl
      refine lv_iload_n hx hb dX12_candidatesOf_4 rfl (lv_at hl 0 rfl) ?_
      refine lv_aload_n hx hb dX12_candidatesOf_5 rfl (lv_at hl 2 rfl) ?_
      refine va_get (D := D) (ci := 12) (v := .ref (ad 19)) (C := RX12) (T := TX12) (N := 100) hx hb hg inX12 hown hK hP 0 rfl rfl 19 (by decide) (hg _ w1725) (fun _ h9 => h9) rfl dX12_candidatesOf_6 ?_
      refine lv_aload_n hx hb dX12_candidatesOf_9 rfl (lv_at hl 2 rfl) ?_
      refine va_get (D := D) (ci := 12) (v := .int (V 0 11)) (C := RX12) (T := TX12) (N := 100) hx hb hg inX12 hown hK hP 0 rfl rfl 11 (by decide) (hg _ w1717) (fun _ h9 => h9) rfl dX12_candidatesOf_10 ?_
      refine va_iald (D := D) (i := (V 0 11)) hx hb hK hP 12 11 rfl rfl (i_in (a := ((V 0 11)).toInt) rfl (by (first | exact om_8367a84723c7 r1.1 r1.2 | omega))) dX12_candidatesOf_13 ?_
      have r6 : 0 ≤ ((V 19 (Int32.toNatClampNeg (V 0 11)))).toInt ∧ ((V 19 (Int32.toNatClampNeg (V 0 11)))).toInt ≤ 24 := hMV 19 (Int32.toNatClampNeg (V 0 11))
      refine lv_icmp_ge (tgt := 69) hx hb dX12_candidatesOf_14 (by decide) (fun c7 => ?_) (fun c7 => ?_)
      · skip
        have f8 : ((V 19 (Int32.toNatClampNeg (V 0 11)))).toInt ≤ y3.toInt := b_le rfl rfl c7
        have bb9 : y4.toInt = ((bsP gs.1 (svm V bq (gs.2.1 1).length) (gs.1 (300 + 32 * gc + 4 * gj)) (gs.1 (302 + 32 * gc + 4 * gj)) (gs.2.1 2).length : Nat) : Int) := by have h9 := xlp5_0; rw [show y3.toInt.toNat = (gs.2.1 2).length from by omega] at h9; exact h9
        refine lv_iconst (v := 0) hx hb dX12_candidatesOf_69 (by decide) ?_
        refine lv_istore_n (lv' := [(3, .int 0), (2, .int y4), (0, .ref (ad 0)), (1, .int p0)]) hx hb dX12_candidatesOf_70 rfl hl (by decide) rfl (fun ls hl => ?_)
        refine lv_iconst (v := 0) hx hb dX12_candidatesOf_71 (by decide) ?_
        refine lv_istore (lv' := [(4, .int 0), (3, .int 0), (2, .int y4), (0, .ref (ad 0)), (1, .int p0)]) hx hb dX12_candidatesOf_72 hl (by decide) rfl (fun ls hl => ?_)
        have lp13 : ∀ (fulp13 : Nat) (y10 : Int32) (y11 : Int32) (V12 : Vf) (H : Heap) (locs : List Loc) (ls : Array Slot), 0 ≤ y10.toInt ∧ y10.toInt ≤ 24 → 0 ≤ y11.toInt ∧ y11.toInt ≤ 24 → (CLV V12 80 (CLP gs.1 (svm V bq (gs.2.1 1).length) (gs.1 (301 + 32 * gc + 4 * gj)) (gs.1 (300 + 32 * gc + 4 * gj)) (gs.1 (302 + 32 * gc + 4 * gj)) (gs.2.1 2).length y10.toInt.toNat) y11.toInt) → y10.toInt ≤ (((gs.2.1 2).length : Nat) : Int) → y11.toInt ≤ y10.toInt → (y11.toInt = 0 → V12 80 0 = V 80 0) → 24 - y10.toInt < (fulp13 : Int) → agr [] [80] V V12 → rgd bM V12 → va_P D vwCl (mw ad kk ks.1 V12 L) H → va_D A (mw ad kk ks.1 V12 L) → va_S A s.heap H locs → lv_has ls 5 [(4, .int y10), (3, .int y11), (2, .int y4), (0, .ref (ad 0)), (1, .int p0)] → W p l e r_s_candidatesOf9 s m ([.ref (ad 0), .int p0] : List Value).toArray below meth c H locs 0 0 (MQ below (q_s_candidatesOf9 D ks ad kk V L p0 bq gs gc gj A) ([.ref (ad 0), .int p0] : List Value).toArray s 0 0 A) (F0 m 74 ls []) := by
          intro fulp13
          induction fulp13 with
          | zero =>
            intro y10 y11 V12 H locs ls klp13_0 klp13_1 xlp13_0 xlp13_1 xlp13_2 xlp13_3 hn ajV12 hMV12 hP hD hS hl
            exfalso; (first | exact om_9386ef0df612 klp13_0.2 hn | omega)
          | succ fulp13 ihlp13 =>
            intro y10 y11 V12 H locs ls klp13_0 klp13_1 xlp13_0 xlp13_1 xlp13_2 xlp13_3 hn ajV12 hMV12 hP hD hS hl
            have agV12 : agr [] [80] V V12 := agV.tr ajV12 (by decide) (by decide)
            refine lv_iload hx hb dX12_candidatesOf_74 (lv_at hl 0 rfl) ?_
            refine lv_aload_n hx hb dX12_candidatesOf_76 rfl (lv_at hl 3 rfl) ?_
            refine va_get (D := D) (ci := 12) (v := .ref (ad 19)) (C := RX12) (T := TX12) (N := 100) hx hb hg inX12 hown hK hP 0 rfl rfl 19 (by decide) (hg _ w1725) (fun _ h9 => h9) rfl dX12_candidatesOf_77 ?_
            refine lv_aload_n hx hb dX12_candidatesOf_80 rfl (lv_at hl 3 rfl) ?_
            refine va_get (D := D) (ci := 12) (v := .int (V12 0 11)) (C := RX12) (T := TX12) (N := 100) hx hb hg inX12 hown hK hP 0 rfl rfl 11 (by decide) (hg _ w1717) (fun _ h9 => h9) rfl dX12_candidatesOf_81 ?_
            refine g_top (v := (V 0 11)) (ajV12 0 11 rfl) ?_
            refine va_iald (D := D) (i := (V 0 11)) hx hb hK hP 12 11 rfl rfl (i_in (a := ((V 0 11)).toInt) rfl (by (first | exact om_8367a84723c7 r1.1 r1.2 | omega))) dX12_candidatesOf_84 ?_
            refine g_top (v := (V 19 (Int32.toNatClampNeg (V 0 11)))) (ajV12 19 (Int32.toNatClampNeg (V 0 11)) rfl) ?_
            refine lv_icmp_ge (tgt := 143) hx hb dX12_candidatesOf_85 (by decide) (fun c14 => ?_) (fun c14 => ?_)
            · skip
              have f15 : ((V 19 (Int32.toNatClampNeg (V 0 11)))).toInt ≤ y10.toInt := b_le rfl rfl c14
              refine lv_iload_n hx hb dX12_candidatesOf_143 rfl (lv_at hl 1 rfl) ?_
              exact W.iret (v := y11) hx hb hr (fun t ht hW => ⟨⟨y11, (V12, L), rfl, ⟨hMV12, agV12, rfl, (show 0 ≤ y11.toInt ∧ y11.toInt ≤ 24 from by (first | exact om_dc10c6d48ea2 ln q19 r6.2 klp13_1.1 xlp13_1 xlp13_2 | omega)), (by have h9 := xlp13_0; rw [show y10.toInt.toNat = (gs.2.1 2).length from by omega] at h9; exact h9), xlp13_3⟩, by rw [ht]; exact hP, va_K.moved hW.alike hK, hD⟩, hS.F ht⟩) hS.2.2 dX12_candidatesOf_144
            · skip
              have f16 : y10.toInt < ((V 19 (Int32.toNatClampNeg (V 0 11)))).toInt := b_nle rfl rfl c14
              have kk17 := i_clamp (x := y10) rfl (by (first | exact om_eafa9039069c klp13_0.1 | omega))
              have cm6 : COM V12 bq gs := COM.ag com (by rw [(funext (fun q => ajV12 21 q rfl) : V12 21 = V 21)] : V12 21 = V 21) (by rw [(funext (fun q => ajV12 22 q rfl) : V12 22 = V 22)] : V12 22 = V 22) (by rw [(funext (fun q => ajV12 23 q rfl) : V12 23 = V 23)] : V12 23 = V 23) (by rw [(funext (fun q => ajV12 24 q rfl) : V12 24 = V 24)] : V12 24 = V 24) (by rw [(funext (fun q => ajV12 25 q rfl) : V12 25 = V 25)] : V12 25 = V 25) (by rw [(funext (fun q => ajV12 26 q rfl) : V12 26 = V 26)] : V12 26 = V 26) (by rw [(funext (fun q => ajV12 27 q rfl) : V12 27 = V 27)] : V12 27 = V 27) (by rw [(funext (fun q => ajV12 28 q rfl) : V12 28 = V 28)] : V12 28 = V 28) (by rw [(funext (fun q => ajV12 29 q rfl) : V12 29 = V 29)] : V12 29 = V 29) (by rw [(funext (fun q => ajV12 30 q rfl) : V12 30 = V 30)] : V12 30 = V 30) (by rw [(funext (fun q => ajV12 31 q rfl) : V12 31 = V 31)] : V12 31 = V 31)
              have sv6 : svm V12 bq (gs.2.1 1).length = svm V bq (gs.2.1 1).length := by unfold svm; rw [(by rw [(funext (fun q => ajV12 18 q rfl) : V12 18 = V 18)] : V12 18 = V 18)]
              refine lv_aload_n hx hb dX12_candidatesOf_88 rfl (lv_at hl 3 rfl) ?_
              refine lv_iload_n hx hb dX12_candidatesOf_89 rfl (lv_at hl 4 rfl) ?_
              refine lv_iload hx hb dX12_candidatesOf_90 (lv_at hl 0 rfl) ?_
              have pq18 : (V12 0 11).toInt = ((V 0 11)).toInt := congrArg Int32.toInt (ajV12 0 11 rfl)
              have pq19 : (V12 19 bq).toInt = ((V 19 bq)).toInt := congrArg Int32.toInt (ajV12 19 bq rfl)
              refine gA_int (gA_runV (As := [.int p0, .int y10]) (rest := []) (ci := 12) (q0 := 0) hx hb hml hown hg hP hD hK hS hA hnw hgk (s_suits6 l D ks H.size ad kk V12 L p0 y10 (bq) (gs) (gc) (gj) ((Int32.toNatClampNeg y10)) hMV12 (by (first | exact om_e937935e9c51 rg_p0.1 rg_p0.2 | omega)) (by (first | exact om_b82ab6f2f50e r2.2 q19 klp13_0.1 f16 | omega)) (show ((bq) : Int) = (V12 0 11).toInt from by (first | exact om_9495d81bd5ca zq1 pq18 | omega)) (show p0.toInt = ((8 * (24 * (bq) + (gc)) + (gj) : Nat) : Int) from by (first | exact om_5c6f91e56a35 pn | omega)) gcl gjl t24 (show y10.toInt = (((Int32.toNatClampNeg y10)) : Int) from by (first | exact om_dadc9969542e kk17 | omega)) (show (Int32.toNatClampNeg y10) < (gs.2.1 2).length from by (first | exact om_2278541b5b9f ln q19 f16 kk17 | omega)) cm6 (show (V12 19 (bq)).toInt = ((((gs).2.1 2).length : Nat) : Int) from by (first | exact om_adf531c77a0d ln pq19 | omega)) wh) w2176 w2178 w120 w172 w2179 rfl rfl hdV_yX12_suits ⟨Nat.le_of_ble_eq_true rfl, Nat.le_of_ble_eq_true rfl⟩ rfl hl.1 rfl (Nat.le_of_ble_eq_true rfl) dX12_candidatesOf_92 ⟨Nat.le_of_ble_eq_true rfl, Nat.le_of_ble_eq_true rfl⟩) hP hD hK hS hA (fun z20 u21 H locs w22 hP hD hK hS => ?_)
              obtain ⟨rgz20, t23⟩ := w22
              have rgz20 : 0 ≤ z20.toInt ∧ z20.toInt ≤ 1 := rgz20
              have t23 : (z20.toInt = 1 ∧ suP (gs).1 (svm V12 (bq) ((gs).2.1 1).length) ((gs).1 (300 + 32 * (gc) + 4 * (gj))) ((gs).1 (302 + 32 * (gc) + 4 * (gj))) ((Int32.toNatClampNeg y10)) = true) ∨ (z20.toInt = 0 ∧ suP (gs).1 (svm V12 (bq) ((gs).2.1 1).length) ((gs).1 (300 + 32 * (gc) + 4 * (gj))) ((gs).1 (302 + 32 * (gc) + 4 * (gj))) ((Int32.toNatClampNeg y10)) = false) := t23
              refine lv_if_eq (tgt := 137) hx hb dX12_candidatesOf_95 (by decide) (fun c24 => ?_) (fun c24 => ?_)
              · skip
                have f25 : z20.toInt = 0 := b_eq rfl (by decide) c24
                obtain ⟨z26, ez26⟩ : ∃ y : Int32, y = y10 + 1 := ⟨_, rfl⟩
                have hz26 : z26.toInt = y10.toInt + 1 := i_add ez26 rfl (by decide) (by (first | exact om_cba3b1702db7 r2.2 q19 klp13_0.1 f16 | omega))
                refine lv_iinc (v := z26) (lv' := [(4, .int z26), (3, .int y11), (2, .int y4), (0, .ref (ad 0)), (1, .int p0)]) hx hb dX12_candidatesOf_137 hl (k := 0) rfl (by rw [ez26]; rfl) (by decide) rfl (fun ls hl => ?_)
                refine lv_goto (tgt := 74) hx hb dX12_candidatesOf_140 (by decide) ?_
                have su27 : suP gs.1 (svm V bq (gs.2.1 1).length) (gs.1 (300 + 32 * gc + 4 * gj)) (gs.1 (302 + 32 * gc + 4 * gj)) (Int32.toNatClampNeg y10) = false := (by have h9 := (t23.resolve_left (fun h9 => by have h8 := h9.1; omega)).2; rw [sv6] at h9; exact h9)
                have em9 : z26.toInt.toNat = (Int32.toNatClampNeg y10) + 1 := by (first | exact om_e74b57b43c73 klp13_0.1 kk17 hz26 | omega)
                have l9 := xlp13_0
                rw [show y10.toInt.toNat = (Int32.toNatClampNeg y10) from rfl] at l9
                have b9 : y4.toInt = ((bsP gs.1 (svm V bq (gs.2.1 1).length) (gs.1 (300 + 32 * gc + 4 * gj)) (gs.1 (302 + 32 * gc + 4 * gj)) (gs.2.1 2).length : Nat) : Int) := bb9
                exact ihlp13 z26 y11 V12 H locs ls (by (first | exact om_03bbbfa61cad r2.2 q19 klp13_0.1 f16 hz26 | omega)) (by (first | exact om_7e2c0121d284 r2.2 q19 klp13_1.1 xlp13_2 f16 | omega)) (by rw [em9, CLP_n (cdP_n su27)]; exact l9) (show z26.toInt ≤ (((gs.2.1 2).length : Nat) : Int) from by (first | exact om_139e70ed6b2e ln q19 f16 hz26 | omega)) (show y11.toInt ≤ z26.toInt from by (first | exact om_f75a30b4c815 xlp13_2 hz26 | omega)) (fun h9 => xlp13_3 (by omega)) (by (first | exact om_9592d9319ffa hn hz26 | omega)) (agr.tr agr.rf ajV12 (by decide) (by decide)) hMV12 hP hD hS (lv_sub hl [0, 1, 2, 3, 4] rfl)
              · skip
                have f28 : z20.toInt ≠ 0 := b_neq rfl (by decide) c24
                refine lv_aload_n hx hb dX12_candidatesOf_98 rfl (lv_at hl 3 rfl) ?_
                refine va_get (D := D) (ci := 12) (v := .ref (ad 30)) (C := RX12) (T := TX12) (N := 100) hx hb hg inX12 hown hK hP 0 rfl rfl 30 (by decide) (hg _ w1736) (fun _ h9 => h9) rfl dX12_candidatesOf_99 ?_
                refine lv_iload_n hx hb dX12_candidatesOf_102 rfl (lv_at hl 4 rfl) ?_
                refine va_zald (D := D) (i := p0) hx hb hK hP 23 22 rfl rfl (i_in (a := p0.toInt) rfl (by (first | exact om_49d8f2f70e9a rg_p0.1 rg_p0.2 | omega))) dX12_candidatesOf_103 ?_
                refine g_top (v := (V 30 (Int32.toNatClampNeg p0))) (ajV12 30 (Int32.toNatClampNeg p0) rfl) ?_
                have r29 : 0 ≤ ((V 30 (Int32.toNatClampNeg p0))).toInt ∧ ((V 30 (Int32.toNatClampNeg p0))).toInt ≤ 1 := hMV 30 (Int32.toNatClampNeg p0)
                refine lv_if_ne (tgt := 126) hx hb dX12_candidatesOf_104 (by decide) (fun c30 => ?_) (fun c30 => ?_)
                · skip
                  have f31 : ((V 30 (Int32.toNatClampNeg p0))).toInt ≠ 0 := b_neq rfl (by decide) c30
                  refine lv_aload_n hx hb dX12_candidatesOf_126 rfl (lv_at hl 3 rfl) ?_
                  refine va_get (D := D) (ci := 12) (v := .ref (ad 80)) (C := RX12) (T := TX12) (N := 100) hx hb hg inX12 hown hK hP 0 rfl rfl 80 (by decide) (hg _ w1786) (fun _ h9 => h9) rfl dX12_candidatesOf_127 ?_
                  refine lv_iload_n hx hb dX12_candidatesOf_130 rfl (lv_at hl 1 rfl) ?_
                  refine lv_iload hx hb dX12_candidatesOf_131 (lv_at hl 0 rfl) ?_
                  refine va_iast (D := D) (i := y11) (x := y10) hx hb hK hP hD hS 57 56 rfl rfl (i_in (a := y11.toInt) rfl (by (first | exact om_97cd09ff96d9 r2.2 q19 klp13_1.1 xlp13_2 f16 | omega))) dX12_candidatesOf_133 (fun H locs hP hD hS => ?_)
                  obtain ⟨V32, hV32⟩ : ∃ z, z = up2 V12 80 (Int32.toNatClampNeg y11) y10 := ⟨_, rfl⟩
                  have hP : va_P D vwCl (mw ad kk ks.1 V32 L) H := by rw [hV32]; exact hP
                  have hD : va_D A (mw ad kk ks.1 V32 L) := by rw [hV32]; exact hD
                  have hMV32 : rgd bM V32 := hMV12.put hV32 (show 0 ≤ y10.toInt ∧ y10.toInt ≤ 23 from by (first | exact om_b82ab6f2f50e r2.2 q19 klp13_0.1 f16 | omega))
                  have agV32 : agr [] [80] V V32 := agV12.up hV32 rfl
                  obtain ⟨z33, ez33⟩ : ∃ y : Int32, y = y11 + 1 := ⟨_, rfl⟩
                  have hz33 : z33.toInt = y11.toInt + 1 := i_add ez33 rfl (by decide) (by (first | exact om_42a03d5ac0bb r2.2 q19 klp13_1.1 xlp13_2 f16 | omega))
                  refine lv_iinc (v := z33) (lv' := [(3, .int z33), (4, .int y10), (2, .int y4), (0, .ref (ad 0)), (1, .int p0)]) hx hb dX12_candidatesOf_134 hl (k := 1) rfl (by rw [ez33]; rfl) (by decide) rfl (fun ls hl => ?_)
                  obtain ⟨z34, ez34⟩ : ∃ y : Int32, y = y10 + 1 := ⟨_, rfl⟩
                  have hz34 : z34.toInt = y10.toInt + 1 := i_add ez34 rfl (by decide) (by (first | exact om_cba3b1702db7 r2.2 q19 klp13_0.1 f16 | omega))
                  refine lv_iinc (v := z34) (lv' := [(4, .int z34), (3, .int z33), (2, .int y4), (0, .ref (ad 0)), (1, .int p0)]) hx hb dX12_candidatesOf_137 hl (k := 1) rfl (by rw [ez34]; rfl) (by decide) rfl (fun ls hl => ?_)
                  refine lv_goto (tgt := 74) hx hb dX12_candidatesOf_140 (by decide) ?_
                  have su35 : suP gs.1 (svm V bq (gs.2.1 1).length) (gs.1 (300 + 32 * gc + 4 * gj)) (gs.1 (302 + 32 * gc + 4 * gj)) (Int32.toNatClampNeg y10) = true := (by have h9 := (t23.resolve_right (fun h9 => by have h8 := h9.1; omega)).2; rw [sv6] at h9; exact h9)
                  have em9 : z34.toInt.toNat = (Int32.toNatClampNeg y10) + 1 := by (first | exact om_e74b57b43c73 klp13_0.1 kk17 hz34 | omega)
                  have l9 := xlp13_0
                  rw [show y10.toInt.toNat = (Int32.toNatClampNeg y10) from rfl] at l9
                  have b9 : y4.toInt = ((bsP gs.1 (svm V bq (gs.2.1 1).length) (gs.1 (300 + 32 * gc + 4 * gj)) (gs.1 (302 + 32 * gc + 4 * gj)) (gs.2.1 2).length : Nat) : Int) := bb9
                  exact ihlp13 z34 z33 V32 H locs ls (by (first | exact om_03bbbfa61cad r2.2 q19 klp13_0.1 f16 hz34 | omega)) (by (first | exact om_fd7621cf2ee5 r2.2 q19 klp13_1.1 xlp13_2 f16 hz33 | omega)) (by rw [em9, CLP_y (cdP_y su35 (Or.inl (n30.mp (by omega))))]; exact CLV.add l9 hV32 (by have h9 := i_clamp (x := y11) rfl (by (first | exact om_eafa9039069c klp13_1.1 | omega)); omega) (by omega) (by omega)) (show z34.toInt ≤ (((gs.2.1 2).length : Nat) : Int) from by (first | exact om_139e70ed6b2e ln q19 f16 hz34 | omega)) (show z33.toInt ≤ z34.toInt from by (first | exact om_953ed16b636a xlp13_2 hz33 hz34 | omega)) (fun h9 => by exfalso; omega) (by (first | exact om_9592d9319ffa hn hz34 | omega)) (agr.up (agr.tr agr.rf ajV12 (by decide) (by decide)) hV32 rfl) hMV32 hP hD hS (lv_sub hl [0, 1, 2, 3, 4] rfl)
                · skip
                  have f36 : ((V 30 (Int32.toNatClampNeg p0))).toInt = 0 := b_eq rfl (by decide) c30
                  refine lv_aload_n hx hb dX12_candidatesOf_107 rfl (lv_at hl 3 rfl) ?_
                  refine va_get (D := D) (ci := 12) (v := .ref (ad 24)) (C := RX12) (T := TX12) (N := 100) hx hb hg inX12 hown hK hP 0 rfl rfl 24 (by decide) (hg _ w1730) (fun _ h9 => h9) rfl dX12_candidatesOf_108 ?_
                  refine lv_bipush (v := 24) hx hb dX12_candidatesOf_111 (by decide) ?_
                  refine lv_aload_n hx hb dX12_candidatesOf_113 rfl (lv_at hl 3 rfl) ?_
                  refine va_get (D := D) (ci := 12) (v := .int (V12 0 11)) (C := RX12) (T := TX12) (N := 100) hx hb hg inX12 hown hK hP 0 rfl rfl 11 (by decide) (hg _ w1717) (fun _ h9 => h9) rfl dX12_candidatesOf_114 ?_
                  refine g_top (v := (V 0 11)) (ajV12 0 11 rfl) ?_
                  refine lv_imul hx hb dX12_candidatesOf_117 ?_
                  refine lv_topi (fun z37 ez37 => ?_)
                  have hz37 : z37.toInt = 24 * ((V 0 11)).toInt := i_mul ez37 (by decide) rfl (by (first | exact om_3f8aba7b6ce1 r1.1 r1.2 | omega))
                  refine lv_iload hx hb dX12_candidatesOf_118 (lv_at hl 0 rfl) ?_
                  refine lv_iadd hx hb dX12_candidatesOf_120 ?_
                  refine lv_topi (fun z38 ez38 => ?_)
                  have hz38 : z38.toInt = z37.toInt + y10.toInt := i_add ez38 rfl rfl (by (first | exact om_05b2ab89c241 r1.1 r1.2 r2.2 q19 klp13_0.1 f16 hz37 | omega))
                  have kr6 : Int32.toNatClampNeg z38 = 24 * bq + (Int32.toNatClampNeg y10) := by have h9 := i_clamp (x := z38) rfl (by (first | exact om_19aed6992cbe r1.1 klp13_0.1 hz37 hz38 | omega)); (first | exact om_4c29053cab98 zq1 kk17 hz37 hz38 h9 | omega)
                  have r24 : (V 24 (Int32.toNatClampNeg z38)).toInt = ((gs.1 (63 + 8 * (Int32.toNatClampNeg y10)) : Nat) : Int) := by rw [kr6]; exact (com (Int32.toNatClampNeg y10) (by omega)).1.2.2.2.1
                  refine va_iald (D := D) (i := z38) hx hb hK hP 17 16 rfl rfl (i_in (a := z38.toInt) rfl (by (first | exact om_8dcc3627f11a r1.1 r1.2 r2.2 q19 klp13_0.1 f16 hz37 hz38 | omega))) dX12_candidatesOf_121 ?_
                  refine g_top (v := (V 24 (Int32.toNatClampNeg z38))) (ajV12 24 (Int32.toNatClampNeg z38) rfl) ?_
                  have r39 : 0 ≤ ((V 24 (Int32.toNatClampNeg z38))).toInt ∧ ((V 24 (Int32.toNatClampNeg z38))).toInt ≤ 9 := hMV 24 (Int32.toNatClampNeg z38)
                  refine lv_iload_n hx hb dX12_candidatesOf_122 rfl (lv_at hl 2 rfl) ?_
                  refine lv_icmp_ne (tgt := 137) hx hb dX12_candidatesOf_123 (by decide) (fun c40 => ?_) (fun c40 => ?_)
                  · skip
                    have f41 : ((V 24 (Int32.toNatClampNeg z38))).toInt ≠ y4.toInt := b_neq rfl rfl c40
                    obtain ⟨z42, ez42⟩ : ∃ y : Int32, y = y10 + 1 := ⟨_, rfl⟩
                    have hz42 : z42.toInt = y10.toInt + 1 := i_add ez42 rfl (by decide) (by (first | exact om_cba3b1702db7 r2.2 q19 klp13_0.1 f16 | omega))
                    refine lv_iinc (v := z42) (lv' := [(4, .int z42), (3, .int y11), (2, .int y4), (0, .ref (ad 0)), (1, .int p0)]) hx hb dX12_candidatesOf_137 hl (k := 0) rfl (by rw [ez42]; rfl) (by decide) rfl (fun ls hl => ?_)
                    refine lv_goto (tgt := 74) hx hb dX12_candidatesOf_140 (by decide) ?_
                    have su43 : suP gs.1 (svm V bq (gs.2.1 1).length) (gs.1 (300 + 32 * gc + 4 * gj)) (gs.1 (302 + 32 * gc + 4 * gj)) (Int32.toNatClampNeg y10) = true := (by have h9 := (t23.resolve_right (fun h9 => by have h8 := h9.1; omega)).2; rw [sv6] at h9; exact h9)
                    have em9 : z42.toInt.toNat = (Int32.toNatClampNeg y10) + 1 := by (first | exact om_e74b57b43c73 klp13_0.1 kk17 hz42 | omega)
                    have l9 := xlp13_0
                    rw [show y10.toInt.toNat = (Int32.toNatClampNeg y10) from rfl] at l9
                    have b9 : y4.toInt = ((bsP gs.1 (svm V bq (gs.2.1 1).length) (gs.1 (300 + 32 * gc + 4 * gj)) (gs.1 (302 + 32 * gc + 4 * gj)) (gs.2.1 2).length : Nat) : Int) := bb9
                    exact ihlp13 z42 y11 V12 H locs ls (by (first | exact om_03bbbfa61cad r2.2 q19 klp13_0.1 f16 hz42 | omega)) (by (first | exact om_7e2c0121d284 r2.2 q19 klp13_1.1 xlp13_2 f16 | omega)) (by rw [em9, CLP_n (cdP_no (fun h9 => absurd (n30.mpr h9) (by omega)) (by omega))]; exact l9) (show z42.toInt ≤ (((gs.2.1 2).length : Nat) : Int) from by (first | exact om_139e70ed6b2e ln q19 f16 hz42 | omega)) (show y11.toInt ≤ z42.toInt from by (first | exact om_f75a30b4c815 xlp13_2 hz42 | omega)) (fun h9 => xlp13_3 (by omega)) (by (first | exact om_9592d9319ffa hn hz42 | omega)) (agr.tr agr.rf ajV12 (by decide) (by decide)) hMV12 hP hD hS (lv_sub hl [0, 1, 2, 3, 4] rfl)
                  · skip
                    have f44 : ((V 24 (Int32.toNatClampNeg z38))).toInt = y4.toInt := b_eq rfl rfl c40
                    refine lv_aload_n hx hb dX12_candidatesOf_126 rfl (lv_at hl 3 rfl) ?_
                    refine va_get (D := D) (ci := 12) (v := .ref (ad 80)) (C := RX12) (T := TX12) (N := 100) hx hb hg inX12 hown hK hP 0 rfl rfl 80 (by decide) (hg _ w1786) (fun _ h9 => h9) rfl dX12_candidatesOf_127 ?_
                    refine lv_iload_n hx hb dX12_candidatesOf_130 rfl (lv_at hl 1 rfl) ?_
                    refine lv_iload hx hb dX12_candidatesOf_131 (lv_at hl 0 rfl) ?_
                    refine va_iast (D := D) (i := y11) (x := y10) hx hb hK hP hD hS 57 56 rfl rfl (i_in (a := y11.toInt) rfl (by (first | exact om_97cd09ff96d9 r2.2 q19 klp13_1.1 xlp13_2 f16 | omega))) dX12_candidatesOf_133 (fun H locs hP hD hS => ?_)
                    obtain ⟨V45, hV45⟩ : ∃ z, z = up2 V12 80 (Int32.toNatClampNeg y11) y10 := ⟨_, rfl⟩
                    have hP : va_P D vwCl (mw ad kk ks.1 V45 L) H := by rw [hV45]; exact hP
                    have hD : va_D A (mw ad kk ks.1 V45 L) := by rw [hV45]; exact hD
                    have hMV45 : rgd bM V45 := hMV12.put hV45 (show 0 ≤ y10.toInt ∧ y10.toInt ≤ 23 from by (first | exact om_b82ab6f2f50e r2.2 q19 klp13_0.1 f16 | omega))
                    have agV45 : agr [] [80] V V45 := agV12.up hV45 rfl
                    obtain ⟨z46, ez46⟩ : ∃ y : Int32, y = y11 + 1 := ⟨_, rfl⟩
                    have hz46 : z46.toInt = y11.toInt + 1 := i_add ez46 rfl (by decide) (by (first | exact om_42a03d5ac0bb r2.2 q19 klp13_1.1 xlp13_2 f16 | omega))
                    refine lv_iinc (v := z46) (lv' := [(3, .int z46), (4, .int y10), (2, .int y4), (0, .ref (ad 0)), (1, .int p0)]) hx hb dX12_candidatesOf_134 hl (k := 1) rfl (by rw [ez46]; rfl) (by decide) rfl (fun ls hl => ?_)
                    obtain ⟨z47, ez47⟩ : ∃ y : Int32, y = y10 + 1 := ⟨_, rfl⟩
                    have hz47 : z47.toInt = y10.toInt + 1 := i_add ez47 rfl (by decide) (by (first | exact om_cba3b1702db7 r2.2 q19 klp13_0.1 f16 | omega))
                    refine lv_iinc (v := z47) (lv' := [(4, .int z47), (3, .int z46), (2, .int y4), (0, .ref (ad 0)), (1, .int p0)]) hx hb dX12_candidatesOf_137 hl (k := 1) rfl (by rw [ez47]; rfl) (by decide) rfl (fun ls hl => ?_)
                    refine lv_goto (tgt := 74) hx hb dX12_candidatesOf_140 (by decide) ?_
                    have su48 : suP gs.1 (svm V bq (gs.2.1 1).length) (gs.1 (300 + 32 * gc + 4 * gj)) (gs.1 (302 + 32 * gc + 4 * gj)) (Int32.toNatClampNeg y10) = true := (by have h9 := (t23.resolve_right (fun h9 => by have h8 := h9.1; omega)).2; rw [sv6] at h9; exact h9)
                    have em9 : z47.toInt.toNat = (Int32.toNatClampNeg y10) + 1 := by (first | exact om_e74b57b43c73 klp13_0.1 kk17 hz47 | omega)
                    have l9 := xlp13_0
                    rw [show y10.toInt.toNat = (Int32.toNatClampNeg y10) from rfl] at l9
                    have b9 : y4.toInt = ((bsP gs.1 (svm V bq (gs.2.1 1).length) (gs.1 (300 + 32 * gc + 4 * gj)) (gs.1 (302 + 32 * gc + 4 * gj)) (gs.2.1 2).length : Nat) : Int) := bb9
                    exact ihlp13 z47 z46 V45 H locs ls (by (first | exact om_03bbbfa61cad r2.2 q19 klp13_0.1 f16 hz47 | omega)) (by (first | exact om_fd7621cf2ee5 r2.2 q19 klp13_1.1 xlp13_2 f16 hz46 | omega)) (by rw [em9, CLP_y (cdP_y su48 (Or.inr (by omega)))]; exact CLV.add l9 hV45 (by have h9 := i_clamp (x := y11) rfl (by (first | exact om_eafa9039069c klp13_1.1 | omega)); omega) (by omega) (by omega)) (show z47.toInt ≤ (((gs.2.1 2).length : Nat) : Int) from by (first | exact om_139e70ed6b2e ln q19 f16 hz47 | omega)) (show z46.toInt ≤ z47.toInt from by (first | exact om_953ed16b636a xlp13_2 hz46 hz47 | omega)) (fun h9 => by exfalso; omega) (by (first | exact om_9592d9319ffa hn hz47 | omega)) (agr.up (agr.tr agr.rf ajV12 (by decide) (by decide)) hV45 rfl) hMV45 hP hD hS (lv_sub hl [0, 1, 2, 3, 4] rfl)
        have r49 : Int32.toInt 0 = 0 := by decide
        exact lp13 ((24 - (Int32.toInt 0) + 1 : Int).toNat) 0 0 V H locs ls (by decide) (by decide) (by rw [show (Int32.toInt 0).toNat = 0 from by decide]; exact CLV.z rfl) (show (Int32.toInt 0) ≤ (((gs.2.1 2).length : Nat) : Int) from by (first | exact om_3f7d4d3a7b74 gcl r49 | omega)) (show (Int32.toInt 0) ≤ (Int32.toInt 0) from by (first | exact om_5977f3d8a10f | omega)) (fun _ => rfl) (by (first | exact om_817980d3aa47 | omega)) agr.rf hMV hP hD hS (lv_sub hl [0, 1, 2, 3, 4] rfl)
      · skip
        have f50 : y3.toInt < ((V 19 (Int32.toNatClampNeg (V 0 11)))).toInt := b_nle rfl rfl c7
        have kk51 := i_clamp (x := y3) rfl (by (first | exact om_eafa9039069c klp5_0.1 | omega))
        refine lv_aload_n hx hb dX12_candidatesOf_17 rfl (lv_at hl 2 rfl) ?_
        refine lv_iload_n hx hb dX12_candidatesOf_18 rfl (lv_at hl 3 rfl) ?_
        refine lv_iload_n hx hb dX12_candidatesOf_19 rfl (lv_at hl 0 rfl) ?_
        refine gA_int (gA_runV (As := [.int p0, .int y3]) (rest := []) (ci := 12) (q0 := 0) hx hb hml hown hg hP hD hK hS hA hnw hgk (s_suits6 l D ks H.size ad kk V L p0 y3 (bq) (gs) (gc) (gj) ((Int32.toNatClampNeg y3)) hMV (by (first | exact om_ee2ada808de7 rg_p0.2 zq1 pn r1.1 | omega)) (by (first | exact om_ac7b8d4d9f10 klp5_0.1 r6.2 f50 | omega)) (show ((bq) : Int) = (V 0 11).toInt from by (first | exact om_639da7453e33 zq1 | omega)) (show p0.toInt = ((8 * (24 * (bq) + (gc)) + (gj) : Nat) : Int) from by (first | exact om_5c6f91e56a35 pn | omega)) gcl gjl t24 (show y3.toInt = (((Int32.toNatClampNeg y3)) : Int) from by (first | exact om_dadc9969542e kk51 | omega)) (show (Int32.toNatClampNeg y3) < (gs.2.1 2).length from by (first | exact om_2278541b5b9f ln q19 f50 kk51 | omega)) com (show (V 19 (bq)).toInt = ((((gs).2.1 2).length : Nat) : Int) from by (first | exact om_08e0c9701055 ln | omega)) wh) w2176 w2178 w120 w172 w2179 rfl rfl hdV_yX12_suits ⟨Nat.le_of_ble_eq_true rfl, Nat.le_of_ble_eq_true rfl⟩ rfl hl.1 rfl (Nat.le_of_ble_eq_true rfl) dX12_candidatesOf_20 ⟨Nat.le_of_ble_eq_true rfl, Nat.le_of_ble_eq_true rfl⟩) hP hD hK hS hA (fun z52 u53 H locs w54 hP hD hK hS => ?_)
        obtain ⟨rgz52, t55⟩ := w54
        have rgz52 : 0 ≤ z52.toInt ∧ z52.toInt ≤ 1 := rgz52
        have t55 : (z52.toInt = 1 ∧ suP (gs).1 (svm V (bq) ((gs).2.1 1).length) ((gs).1 (300 + 32 * (gc) + 4 * (gj))) ((gs).1 (302 + 32 * (gc) + 4 * (gj))) ((Int32.toNatClampNeg y3)) = true) ∨ (z52.toInt = 0 ∧ suP (gs).1 (svm V (bq) ((gs).2.1 1).length) ((gs).1 (300 + 32 * (gc) + 4 * (gj))) ((gs).1 (302 + 32 * (gc) + 4 * (gj))) ((Int32.toNatClampNeg y3)) = false) := t55
        refine lv_if_eq (tgt := 61) hx hb dX12_candidatesOf_23 (by decide) (fun c56 => ?_) (fun c56 => ?_)
        · skip
          have f57 : z52.toInt = 0 := b_eq rfl (by decide) c56
          refine lv_iload_n hx hb dX12_candidatesOf_61 rfl (lv_at hl 1 rfl) ?_
          refine lv_istore_n (lv' := [(2, .int y4), (3, .int y3), (0, .ref (ad 0)), (1, .int p0)]) hx hb dX12_candidatesOf_62 rfl hl (by decide) rfl (fun ls hl => ?_)
          obtain ⟨z58, ez58⟩ : ∃ y : Int32, y = y3 + 1 := ⟨_, rfl⟩
          have hz58 : z58.toInt = y3.toInt + 1 := i_add ez58 rfl (by decide) (by (first | exact om_d1b22b2ae31e klp5_0.1 r6.2 f50 | omega))
          refine lv_iinc (v := z58) (lv' := [(3, .int z58), (2, .int y4), (0, .ref (ad 0)), (1, .int p0)]) hx hb dX12_candidatesOf_63 hl (k := 1) rfl (by rw [ez58]; rfl) (by decide) rfl (fun ls hl => ?_)
          refine lv_goto (tgt := 4) hx hb dX12_candidatesOf_66 (by decide) ?_
          have su59 : suP gs.1 (svm V bq (gs.2.1 1).length) (gs.1 (300 + 32 * gc + 4 * gj)) (gs.1 (302 + 32 * gc + 4 * gj)) (Int32.toNatClampNeg y3) = false := (t55.resolve_left (fun h9 => by have h8 := h9.1; omega)).2
          have em9 : z58.toInt.toNat = (Int32.toNatClampNeg y3) + 1 := by (first | exact om_e74b57b43c73 klp5_0.1 kk51 hz58 | omega)
          have b9 := xlp5_0
          rw [show y3.toInt.toNat = (Int32.toNatClampNeg y3) from rfl] at b9
          exact ihlp5 z58 y4 H locs ls (by (first | exact om_5c2541dbcd85 klp5_0.1 r6.2 f50 hz58 | omega)) (by (first | exact om_7b57350f0a3a klp5_1.1 klp5_1.2 | omega)) (by rw [em9, bsP_n su59]; omega) (show z58.toInt ≤ (((gs.2.1 2).length : Nat) : Int) from by (first | exact om_139e70ed6b2e ln q19 f50 hz58 | omega)) (by (first | exact om_9592d9319ffa hn hz58 | omega)) hP hD hS (lv_sub hl [0, 1, 2, 3] rfl)
        · skip
          have f60 : z52.toInt ≠ 0 := b_neq rfl (by decide) c56
          refine lv_aload_n hx hb dX12_candidatesOf_26 rfl (lv_at hl 2 rfl) ?_
          refine va_get (D := D) (ci := 12) (v := .ref (ad 24)) (C := RX12) (T := TX12) (N := 100) hx hb hg inX12 hown hK hP 0 rfl rfl 24 (by decide) (hg _ w1730) (fun _ h9 => h9) rfl dX12_candidatesOf_27 ?_
          refine lv_bipush (v := 24) hx hb dX12_candidatesOf_30 (by decide) ?_
          refine lv_aload_n hx hb dX12_candidatesOf_32 rfl (lv_at hl 2 rfl) ?_
          refine va_get (D := D) (ci := 12) (v := .int (V 0 11)) (C := RX12) (T := TX12) (N := 100) hx hb hg inX12 hown hK hP 0 rfl rfl 11 (by decide) (hg _ w1717) (fun _ h9 => h9) rfl dX12_candidatesOf_33 ?_
          refine lv_imul hx hb dX12_candidatesOf_36 ?_
          refine lv_topi (fun z61 ez61 => ?_)
          have hz61 : z61.toInt = 24 * ((V 0 11)).toInt := i_mul ez61 (by decide) rfl (by (first | exact om_3f8aba7b6ce1 r1.1 r1.2 | omega))
          refine lv_iload_n hx hb dX12_candidatesOf_37 rfl (lv_at hl 0 rfl) ?_
          refine lv_iadd hx hb dX12_candidatesOf_38 ?_
          refine lv_topi (fun z62 ez62 => ?_)
          have hz62 : z62.toInt = z61.toInt + y3.toInt := i_add ez62 rfl rfl (by (first | exact om_9c4efbfbadc9 r1.1 r1.2 klp5_0.1 r6.2 f50 hz61 | omega))
          have kr6 : Int32.toNatClampNeg z62 = 24 * bq + (Int32.toNatClampNeg y3) := by have h9 := i_clamp (x := z62) rfl (by (first | exact om_19aed6992cbe r1.1 klp5_0.1 hz61 hz62 | omega)); (first | exact om_4c29053cab98 zq1 kk51 hz61 hz62 h9 | omega)
          have r24 : (V 24 (Int32.toNatClampNeg z62)).toInt = ((gs.1 (63 + 8 * (Int32.toNatClampNeg y3)) : Nat) : Int) := by rw [kr6]; exact (com (Int32.toNatClampNeg y3) (by omega)).1.2.2.2.1
          refine va_iald (D := D) (i := z62) hx hb hK hP 17 16 rfl rfl (i_in (a := z62.toInt) rfl (by (first | exact om_6ae5e7bc2a17 r1.1 r1.2 klp5_0.1 r6.2 f50 hz61 hz62 | omega))) dX12_candidatesOf_39 ?_
          have r63 : 0 ≤ ((V 24 (Int32.toNatClampNeg z62))).toInt ∧ ((V 24 (Int32.toNatClampNeg z62))).toInt ≤ 9 := hMV 24 (Int32.toNatClampNeg z62)
          refine lv_iload_n hx hb dX12_candidatesOf_40 rfl (lv_at hl 1 rfl) ?_
          refine lv_icmp_le (tgt := 61) hx hb dX12_candidatesOf_41 (by decide) (fun c64 => ?_) (fun c64 => ?_)
          · skip
            have f65 : ((V 24 (Int32.toNatClampNeg z62))).toInt ≤ y4.toInt := b_le rfl rfl c64
            refine lv_iload_n hx hb dX12_candidatesOf_61 rfl (lv_at hl 1 rfl) ?_
            refine lv_istore_n (lv' := [(2, .int y4), (3, .int y3), (0, .ref (ad 0)), (1, .int p0)]) hx hb dX12_candidatesOf_62 rfl hl (by decide) rfl (fun ls hl => ?_)
            obtain ⟨z66, ez66⟩ : ∃ y : Int32, y = y3 + 1 := ⟨_, rfl⟩
            have hz66 : z66.toInt = y3.toInt + 1 := i_add ez66 rfl (by decide) (by (first | exact om_d1b22b2ae31e klp5_0.1 r6.2 f50 | omega))
            refine lv_iinc (v := z66) (lv' := [(3, .int z66), (2, .int y4), (0, .ref (ad 0)), (1, .int p0)]) hx hb dX12_candidatesOf_63 hl (k := 1) rfl (by rw [ez66]; rfl) (by decide) rfl (fun ls hl => ?_)
            refine lv_goto (tgt := 4) hx hb dX12_candidatesOf_66 (by decide) ?_
            have su67 : suP gs.1 (svm V bq (gs.2.1 1).length) (gs.1 (300 + 32 * gc + 4 * gj)) (gs.1 (302 + 32 * gc + 4 * gj)) (Int32.toNatClampNeg y3) = true := (t55.resolve_right (fun h9 => by have h8 := h9.1; omega)).2
            have em9 : z66.toInt.toNat = (Int32.toNatClampNeg y3) + 1 := by (first | exact om_e74b57b43c73 klp5_0.1 kk51 hz66 | omega)
            have b9 := xlp5_0
            rw [show y3.toInt.toNat = (Int32.toNatClampNeg y3) from rfl] at b9
            exact ihlp5 z66 y4 H locs ls (by (first | exact om_5c2541dbcd85 klp5_0.1 r6.2 f50 hz66 | omega)) (by (first | exact om_7b57350f0a3a klp5_1.1 klp5_1.2 | omega)) (by rw [em9, bsP_l (by omega)]; omega) (show z66.toInt ≤ (((gs.2.1 2).length : Nat) : Int) from by (first | exact om_139e70ed6b2e ln q19 f50 hz66 | omega)) (by (first | exact om_9592d9319ffa hn hz66 | omega)) hP hD hS (lv_sub hl [0, 1, 2, 3] rfl)
          · skip
            have f68 : y4.toInt < ((V 24 (Int32.toNatClampNeg z62))).toInt := b_nle rfl rfl c64
            refine lv_aload_n hx hb dX12_candidatesOf_44 rfl (lv_at hl 2 rfl) ?_
            refine va_get (D := D) (ci := 12) (v := .ref (ad 24)) (C := RX12) (T := TX12) (N := 100) hx hb hg inX12 hown hK hP 0 rfl rfl 24 (by decide) (hg _ w1730) (fun _ h9 => h9) rfl dX12_candidatesOf_45 ?_
            refine lv_bipush (v := 24) hx hb dX12_candidatesOf_48 (by decide) ?_
            refine lv_aload_n hx hb dX12_candidatesOf_50 rfl (lv_at hl 2 rfl) ?_
            refine va_get (D := D) (ci := 12) (v := .int (V 0 11)) (C := RX12) (T := TX12) (N := 100) hx hb hg inX12 hown hK hP 0 rfl rfl 11 (by decide) (hg _ w1717) (fun _ h9 => h9) rfl dX12_candidatesOf_51 ?_
            refine lv_imul hx hb dX12_candidatesOf_54 ?_
            refine lv_topi (fun z69 ez69 => ?_)
            have hz69 : z69.toInt = 24 * ((V 0 11)).toInt := i_mul ez69 (by decide) rfl (by (first | exact om_3f8aba7b6ce1 r1.1 r1.2 | omega))
            refine lv_iload_n hx hb dX12_candidatesOf_55 rfl (lv_at hl 0 rfl) ?_
            refine lv_iadd hx hb dX12_candidatesOf_56 ?_
            refine lv_topi (fun z70 ez70 => ?_)
            have hz70 : z70.toInt = z69.toInt + y3.toInt := i_add ez70 rfl rfl (by (first | exact om_9c4efbfbadc9 r1.1 r1.2 klp5_0.1 r6.2 f50 hz69 | omega))
            have kr6 : Int32.toNatClampNeg z70 = 24 * bq + (Int32.toNatClampNeg y3) := by have h9 := i_clamp (x := z70) rfl (by (first | exact om_19aed6992cbe r1.1 klp5_0.1 hz69 hz70 | omega)); (first | exact om_4c29053cab98 zq1 kk51 hz69 hz70 h9 | omega)
            have r24 : (V 24 (Int32.toNatClampNeg z70)).toInt = ((gs.1 (63 + 8 * (Int32.toNatClampNeg y3)) : Nat) : Int) := by rw [kr6]; exact (com (Int32.toNatClampNeg y3) (by omega)).1.2.2.2.1
            refine va_iald (D := D) (i := z70) hx hb hK hP 17 16 rfl rfl (i_in (a := z70.toInt) rfl (by (first | exact om_6ae5e7bc2a17 r1.1 r1.2 klp5_0.1 r6.2 f50 hz69 hz70 | omega))) dX12_candidatesOf_57 ?_
            have r71 : 0 ≤ ((V 24 (Int32.toNatClampNeg z70))).toInt ∧ ((V 24 (Int32.toNatClampNeg z70))).toInt ≤ 9 := hMV 24 (Int32.toNatClampNeg z70)
            refine lv_goto (tgt := 62) hx hb dX12_candidatesOf_58 (by decide) ?_
            refine lv_istore_n (lv' := [(2, .int (V 24 (Int32.toNatClampNeg z70))), (3, .int y3), (0, .ref (ad 0)), (1, .int p0)]) hx hb dX12_candidatesOf_62 rfl hl (by decide) rfl (fun ls hl => ?_)
            obtain ⟨z72, ez72⟩ : ∃ y : Int32, y = y3 + 1 := ⟨_, rfl⟩
            have hz72 : z72.toInt = y3.toInt + 1 := i_add ez72 rfl (by decide) (by (first | exact om_d1b22b2ae31e klp5_0.1 r6.2 f50 | omega))
            refine lv_iinc (v := z72) (lv' := [(3, .int z72), (2, .int (V 24 (Int32.toNatClampNeg z70))), (0, .ref (ad 0)), (1, .int p0)]) hx hb dX12_candidatesOf_63 hl (k := 1) rfl (by rw [ez72]; rfl) (by decide) rfl (fun ls hl => ?_)
            refine lv_goto (tgt := 4) hx hb dX12_candidatesOf_66 (by decide) ?_
            have su73 : suP gs.1 (svm V bq (gs.2.1 1).length) (gs.1 (300 + 32 * gc + 4 * gj)) (gs.1 (302 + 32 * gc + 4 * gj)) (Int32.toNatClampNeg y3) = true := (t55.resolve_right (fun h9 => by have h8 := h9.1; omega)).2
            have em9 : z72.toInt.toNat = (Int32.toNatClampNeg y3) + 1 := by (first | exact om_e74b57b43c73 klp5_0.1 kk51 hz72 | omega)
            have b9 := xlp5_0
            rw [show y3.toInt.toNat = (Int32.toNatClampNeg y3) from rfl] at b9
            exact ihlp5 z72 (V 24 (Int32.toNatClampNeg z70)) H locs ls (by (first | exact om_5c2541dbcd85 klp5_0.1 r6.2 f50 hz72 | omega)) (by (first | exact om_7b57350f0a3a r71.1 r71.2 | omega)) (by rw [em9, bsP_h su73 (by omega)]; omega) (show z72.toInt ≤ (((gs.2.1 2).length : Nat) : Int) from by (first | exact om_139e70ed6b2e ln q19 f50 hz72 | omega)) (by (first | exact om_9592d9319ffa hn hz72 | omega)) hP hD hS (lv_sub hl [0, 1, 2, 3] rfl)
  have r74 : Int32.toInt 0 = 0 := by decide
  exact lp5 ((24 - (Int32.toInt 0) + 1 : Int).toNat) 0 0 H locs ls (by decide) (by decide) (by rw [show (Int32.toInt 0).toNat = 0 from by decide]; rfl) (show (Int32.toInt 0) ≤ (((gs.2.1 2).length : Nat) : Int) from by (first | exact om_3f7d4d3a7b74 gcl r74 | omega)) (by (first | exact om_817980d3aa47 | omega)) hP hD hS (lv_sub hl [0, 1, 2, 3] rfl)
abbrev r_s_isCandidate9 : Room := { frames := 3, cells := 0, slots := 0, locals := 69 }
abbrev q_s_isCandidate9 (D : va_G) (ks : KS) (ad : Nat → Nat) (kk : Nat → ClassId) (V : Vf) (L : Lf) (p0 : Int32) (p1 : Int32) (bq : Nat) (gs : St) (gc : Nat) (gj : Nat) (gv : Nat → Int) (gk : Nat) (A : Nat → Prop) : Array Value → State → Outcome → State → Prop := va_Qi (fun (r : Int32) (u : Vf × Lf) => rgd bM u.1 ∧ agr [] [80] V u.1 ∧ u.2 = L ∧ (0 ≤ r.toInt ∧ r.toInt ≤ 1) ∧ ((r.toInt = 1 ∧ cdP gs.1 gv (gs.1 (301 + 32 * gc + 4 * gj)) (gs.1 (300 + 32 * gc + 4 * gj)) (gs.1 (302 + 32 * gc + 4 * gj)) (gs.2.1 2).length gk = true) ∨ (r.toInt = 0 ∧ cdP gs.1 gv (gs.1 (301 + 32 * gc + 4 * gj)) (gs.1 (300 + 32 * gc + 4 * gj)) (gs.1 (302 + 32 * gc + 4 * gj)) (gs.2.1 2).length gk = false)) ∧ (u.1 80 0 = V 80 0 ∨ ∃ d9 : Nat, (u.1 80 0).toInt = (d9 : Int) ∧ d9 ∈ clF gs.1 gv (gs.2.1 2).length gc gj)) (fun u t => gq D A (mw ad kk ks.1 u.1 u.2) (mty kk) t) A
set_option maxHeartbeats 4000000 in
set_option maxRecDepth 100000 in
theorem s_isCandidate9 (l : Launch) (D : va_G) (ks : KS) (sz : Nat) (ad : Nat → Nat) (kk : Nat → ClassId) (V : Vf) (L : Lf) (p0 : Int32) (p1 : Int32) (bq : Nat) (gs : St) (gc : Nat) (gj : Nat) (gv : Nat → Int) (gk : Nat) (hMV : rgd bM V) (rg_p0 : 0 ≤ p0.toInt ∧ p0.toInt ≤ 383) (rg_p1 : 0 ≤ p1.toInt ∧ p1.toInt ≤ 23) (zq1 : (bq : Int) = (V 0 11).toInt) (pn : p0.toInt = ((8 * (24 * bq + gc) + gj : Nat) : Int)) (gcl : gc < (gs.2.1 2).length) (gjl : gj < gs.1 (66 + 8 * gc)) (t4 : T24 gs) (pk : p1.toInt = ((gk : Nat) : Int)) (gkl : gk < (gs.2.1 2).length) (com : COM V bq gs) (wh : WHs gs) (ln : (V 19 bq).toInt = (((gs.2.1 2).length : Nat) : Int)) (hsv : svm V bq (gs.2.1 1).length = gv)  : Met l yX12_isCandidate (Cond.code yX12_isCandidate cX12_isCandidate 6 (some .boolean) :: GW) r_s_isCandidate9 (va_Pc [.ref (ad 0), .int p0, .int p1] (gp D ks (mw ad kk ks.1 V L) (mty kk) sz)) (q_s_isCandidate9 D ks ad kk V L p0 p1 bq gs gc gj gv gk (va_A (mw ad kk ks.1 V L) sz)) 0 0 (va_A (mw ad kk ks.1 V L) sz) := by
  refine g_met (q_s_isCandidate9 D ks ad kk V L p0 p1 bq gs gc gj gv gk) (by decide) (Nat.le_of_ble_eq_true rfl) ?_
  intro p e s m below meth c A ls H locs hx hb hr hml hown hg hlocks hin hnw hgk hP hK hD hS hA hl
  have hown : s.vm.findClass RX12 = some m.cls := hown
  have hl : lv_has ls 6 [(0, .ref (ad 0)), (1, .int p0), (2, .int p1)] := hl
  have hP : va_P D vwCl (mw ad kk ks.1 V L) H := hP
  have hD : va_D A (mw ad kk ks.1 V L) := hD
  have hK : va_K D vwCl (mty kk) s := hK
  have agV : agr [] [80] V V := agr.rf
  have r1 : 0 ≤ ((V 0 11)).toInt ∧ ((V 0 11)).toInt ≤ 1 := hMV 0 11
  have r2 : 0 ≤ ((V 19 bq)).toInt ∧ ((V 19 bq)).toInt ≤ 24 := hMV 19 bq
  have kb9 : Int32.toNatClampNeg (V 0 11) = bq := by have h9 := i_clamp (x := V 0 11) rfl (by (first | exact om_eafa9039069c r1.1 | omega)); (first | exact om_7d9cc8d6a75e zq1 h9 | omega)
  have q19 : (V 19 (Int32.toNatClampNeg (V 0 11))).toInt = (V 19 bq).toInt := by rw [kb9]
  have t24 := (t4 gc gcl).2.2 gj gjl
  refine lv_aload_n hx hb dX12_isCandidate_0 rfl (lv_at hl 0 rfl) ?_
  refine lv_iload_n hx hb dX12_isCandidate_1 rfl (lv_at hl 1 rfl) ?_
  refine gA_int (gA_runV (As := [.int p0]) (rest := []) (ci := 12) (q0 := 0) hx hb hml hown hg hP hD hK hS hA hnw hgk (s_candidatesOf9 l D ks H.size ad kk V L p0 (bq) (gs) (gc) (gj) hMV (by (first | exact om_ee2ada808de7 rg_p0.2 zq1 pn r1.1 | omega)) (show ((bq) : Int) = (V 0 11).toInt from by (first | exact om_639da7453e33 zq1 | omega)) (show p0.toInt = ((8 * (24 * (bq) + (gc)) + (gj) : Nat) : Int) from by (first | exact om_5c6f91e56a35 pn | omega)) gcl gjl t24 com (show (V 19 (bq)).toInt = ((((gs).2.1 2).length : Nat) : Int) from by (first | exact om_08e0c9701055 ln | omega)) wh) w2172 w2174 w119 w172 w2175 rfl rfl hdV_yX12_candidatesOf ⟨Nat.le_of_ble_eq_true rfl, Nat.le_of_ble_eq_true rfl⟩ rfl hl.1 rfl (Nat.le_of_ble_eq_true rfl) dX12_isCandidate_2 ⟨Nat.le_of_ble_eq_true rfl, Nat.le_of_ble_eq_true rfl⟩) hP hD hK hS hA (fun z3 u4 H locs w5 hP hD hK hS => ?_)
  obtain ⟨V8, L9⟩ := u4
  obtain ⟨hMV8, ajV8, axL9, rgz3, t6, t7⟩ := w5
  have axL9 : L = L9 := Eq.symm axL9
  subst axL9
  have hP : va_P D vwCl (mw ad kk ks.1 V8 L) H := hP
  have hD : va_D A (mw ad kk ks.1 V8 L) := hD
  have hMV8 : rgd bM V8 := hMV8
  have ajV8 : agr [] [80] V V8 := ajV8
  have agV8 : agr [] [80] V V8 := agV.tr ajV8 (by decide) (by decide)
  have rgz3 : 0 ≤ z3.toInt ∧ z3.toInt ≤ 24 := rgz3
  have t6 : CLV V8 80 (CLP (gs).1 (svm V (bq) ((gs).2.1 1).length) ((gs).1 (301 + 32 * (gc) + 4 * (gj))) ((gs).1 (300 + 32 * (gc) + 4 * (gj))) ((gs).1 (302 + 32 * (gc) + 4 * (gj))) ((gs).2.1 2).length ((gs).2.1 2).length) z3.toInt := t6
  have t7 : z3.toInt = 0 → V8 80 0 = V 80 0 := t7
  refine lv_istore_n (lv' := [(3, .int z3), (0, .ref (ad 0)), (1, .int p0), (2, .int p1)]) hx hb dX12_isCandidate_5 rfl hl (by decide) rfl (fun ls hl => ?_)
  have cv10 : CLV V8 80 (clF gs.1 gv (gs.2.1 2).length gc gj) z3.toInt := by have h9 := t6; rw [hsv] at h9; exact h9
  have ll9 := cv10.1
  have c09 := CLV.c0 (V := V) cv10 t7
  refine lv_iconst (v := 0) hx hb dX12_isCandidate_6 (by decide) ?_
  refine lv_istore (lv' := [(4, .int 0), (3, .int z3), (0, .ref (ad 0)), (1, .int p0), (2, .int p1)]) hx hb dX12_isCandidate_7 hl (by decide) rfl (fun ls hl => ?_)
  refine lv_iconst (v := 0) hx hb dX12_isCandidate_9 (by decide) ?_
  refine lv_istore (lv' := [(5, .int 0), (4, .int 0), (3, .int z3), (0, .ref (ad 0)), (1, .int p0), (2, .int p1)]) hx hb dX12_isCandidate_10 hl (by decide) rfl (fun ls hl => ?_)
  have lp13 : ∀ (fulp13 : Nat) (y11 : Int32) (y12 : Int32) (H : Heap) (locs : List Loc) (ls : Array Slot), 0 ≤ y11.toInt ∧ y11.toInt ≤ 24 → 0 ≤ y12.toInt ∧ y12.toInt ≤ 1 → y11.toInt ≤ z3.toInt → ((y12.toInt = 1 ∧ gk ∈ (clF gs.1 gv (gs.2.1 2).length gc gj)) ∨ (y12.toInt = 0 ∧ ∀ i (h : i < (clF gs.1 gv (gs.2.1 2).length gc gj).length), i < y11.toInt.toNat → (clF gs.1 gv (gs.2.1 2).length gc gj)[i] ≠ gk)) → z3.toInt - y11.toInt < (fulp13 : Int) → va_P D vwCl (mw ad kk ks.1 V8 L) H → va_D A (mw ad kk ks.1 V8 L) → va_S A s.heap H locs → lv_has ls 6 [(5, .int y11), (4, .int y12), (3, .int z3), (0, .ref (ad 0)), (1, .int p0), (2, .int p1)] → W p l e r_s_isCandidate9 s m ([.ref (ad 0), .int p0, .int p1] : List Value).toArray below meth c H locs 0 0 (MQ below (q_s_isCandidate9 D ks ad kk V L p0 p1 bq gs gc gj gv gk A) ([.ref (ad 0), .int p0, .int p1] : List Value).toArray s 0 0 A) (F0 m 12 ls []) := by
    intro fulp13
    induction fulp13 with
    | zero =>
      intro y11 y12 H locs ls klp13_0 klp13_1 xlp13_0 xlp13_1 hn  hP hD hS hl
      exfalso; (first | exact om_4634b1278845 xlp13_0 hn | omega)
    | succ fulp13 ihlp13 =>
      intro y11 y12 H locs ls klp13_0 klp13_1 xlp13_0 xlp13_1 hn  hP hD hS hl
      refine lv_iload hx hb dX12_isCandidate_12 (lv_at hl 0 rfl) ?_
      refine lv_iload_n hx hb dX12_isCandidate_14 rfl (lv_at hl 2 rfl) ?_
      refine lv_icmp_ge (tgt := 47) hx hb dX12_isCandidate_15 (by decide) (fun c14 => ?_) (fun c14 => ?_)
      · skip
        have f15 : z3.toInt ≤ y11.toInt := b_le rfl rfl c14
        refine lv_iload hx hb dX12_isCandidate_47 (lv_at hl 1 rfl) ?_
        exact W.zret (v := y12) hx hb hr (nb_ok (by omega)) (fun t ht hW => ⟨⟨y12, (V8, L), rfl, ⟨hMV8, agV8, rfl, (show 0 ≤ y12.toInt ∧ y12.toInt ≤ 1 from by (first | exact om_eb7af9d60398 klp13_1.1 klp13_1.2 | omega)), (by rcases xlp13_1 with h9 | h9; exact Or.inl ⟨h9.1, (CLP_mem gkl).mp h9.2⟩; exact Or.inr ⟨h9.1, by cases e9 : cdP gs.1 gv (gs.1 (301 + 32 * gc + 4 * gj)) (gs.1 (300 + 32 * gc + 4 * gj)) (gs.1 (302 + 32 * gc + 4 * gj)) (gs.2.1 2).length gk; rfl; exact absurd (show gk ∈ (clF gs.1 gv (gs.2.1 2).length gc gj) from (CLP_mem gkl).mpr e9) (mem_at (fun i hi => h9.2 i hi (by omega)))⟩), c09⟩, by rw [ht]; exact hP, va_K.moved hW.alike hK, hD⟩, hS.F ht⟩) hS.2.2 dX12_isCandidate_49
      · skip
        have f16 : y11.toInt < z3.toInt := b_nle rfl rfl c14
        have ky9 := i_clamp (x := y11) rfl (by (first | exact om_eafa9039069c klp13_0.1 | omega))
        have hK9 : (Int32.toNatClampNeg y11) < (clF gs.1 gv (gs.2.1 2).length gc gj).length := by omega
        have cv9 : (V8 80 (Int32.toNatClampNeg y11)).toInt = (((clF gs.1 gv (gs.2.1 2).length gc gj)[(Int32.toNatClampNeg y11)] : Nat) : Int) := cv10.2 (Int32.toNatClampNeg y11) hK9
        have gl9 : (clF gs.1 gv (gs.2.1 2).length gc gj)[(Int32.toNatClampNeg y11)] < (gs.2.1 2).length := clF_lt (List.getElem_mem hK9)
        refine lv_iload hx hb dX12_isCandidate_18 (lv_at hl 1 rfl) ?_
        refine lv_if_ne (tgt := 34) hx hb dX12_isCandidate_20 (by decide) (fun c17 => ?_) (fun c17 => ?_)
        · skip
          have f18 : y12.toInt ≠ 0 := b_neq rfl (by decide) c17
          refine lv_iconst (v := 1) hx hb dX12_isCandidate_34 (by decide) ?_
          refine lv_goto (tgt := 39) hx hb dX12_isCandidate_35 (by decide) ?_
          refine lv_istore (lv' := [(4, .int 1), (5, .int y11), (3, .int z3), (0, .ref (ad 0)), (1, .int p0), (2, .int p1)]) hx hb dX12_isCandidate_39 hl (by decide) rfl (fun ls hl => ?_)
          obtain ⟨z19, ez19⟩ : ∃ y : Int32, y = y11 + 1 := ⟨_, rfl⟩
          have hz19 : z19.toInt = y11.toInt + 1 := i_add ez19 rfl (by decide) (by (first | exact om_ef5c713ba60b rgz3.2 klp13_0.1 f16 | omega))
          refine lv_iinc (v := z19) (lv' := [(5, .int z19), (4, .int 1), (3, .int z3), (0, .ref (ad 0)), (1, .int p0), (2, .int p1)]) hx hb dX12_isCandidate_41 hl (k := 1) rfl (by rw [ez19]; rfl) (by decide) rfl (fun ls hl => ?_)
          refine lv_goto (tgt := 12) hx hb dX12_isCandidate_44 (by decide) ?_
          have r20 : Int32.toInt 1 = 1 := by decide
          exact ihlp13 z19 1 H locs ls (by (first | exact om_66f93e1729e3 rgz3.2 klp13_0.1 f16 hz19 | omega)) (by decide) (show z19.toInt ≤ z3.toInt from by (first | exact om_7fe9249fc074 f16 hz19 | omega)) (Or.inl ⟨rfl, (xlp13_1.resolve_right (fun h7 => by have h6 := h7.1; omega)).2⟩) (by (first | exact om_9e7d2b874257 hn hz19 | omega)) hP hD hS (lv_sub hl [0, 1, 2, 3, 4, 5] rfl)
        · skip
          have f21 : y12.toInt = 0 := b_eq rfl (by decide) c17
          refine lv_aload_n hx hb dX12_isCandidate_23 rfl (lv_at hl 3 rfl) ?_
          refine va_get (D := D) (ci := 12) (v := .ref (ad 80)) (C := RX12) (T := TX12) (N := 100) hx hb hg inX12 hown hK hP 0 rfl rfl 80 (by decide) (hg _ w1786) (fun _ h9 => h9) rfl dX12_isCandidate_24 ?_
          refine lv_iload hx hb dX12_isCandidate_27 (lv_at hl 0 rfl) ?_
          refine va_iald (D := D) (i := y11) hx hb hK hP 57 56 rfl rfl (i_in (a := y11.toInt) rfl (by (first | exact om_b50422aacf88 rgz3.2 klp13_0.1 f16 | omega))) dX12_isCandidate_29 ?_
          have r22 : 0 ≤ ((V8 80 (Int32.toNatClampNeg y11))).toInt ∧ ((V8 80 (Int32.toNatClampNeg y11))).toInt ≤ 23 := hMV8 80 (Int32.toNatClampNeg y11)
          refine lv_iload_n hx hb dX12_isCandidate_30 rfl (lv_at hl 5 rfl) ?_
          refine lv_icmp_ne (tgt := 38) hx hb dX12_isCandidate_31 (by decide) (fun c23 => ?_) (fun c23 => ?_)
          · skip
            have f24 : ((V8 80 (Int32.toNatClampNeg y11))).toInt ≠ p1.toInt := b_neq rfl rfl c23
            refine lv_iconst (v := 0) hx hb dX12_isCandidate_38 (by decide) ?_
            refine lv_istore (lv' := [(4, .int 0), (5, .int y11), (3, .int z3), (0, .ref (ad 0)), (1, .int p0), (2, .int p1)]) hx hb dX12_isCandidate_39 hl (by decide) rfl (fun ls hl => ?_)
            obtain ⟨z25, ez25⟩ : ∃ y : Int32, y = y11 + 1 := ⟨_, rfl⟩
            have hz25 : z25.toInt = y11.toInt + 1 := i_add ez25 rfl (by decide) (by (first | exact om_ef5c713ba60b rgz3.2 klp13_0.1 f16 | omega))
            refine lv_iinc (v := z25) (lv' := [(5, .int z25), (4, .int 0), (3, .int z3), (0, .ref (ad 0)), (1, .int p0), (2, .int p1)]) hx hb dX12_isCandidate_41 hl (k := 1) rfl (by rw [ez25]; rfl) (by decide) rfl (fun ls hl => ?_)
            refine lv_goto (tgt := 12) hx hb dX12_isCandidate_44 (by decide) ?_
            have r26 : Int32.toInt 0 = 0 := by decide
            exact ihlp13 z25 0 H locs ls (by (first | exact om_66f93e1729e3 rgz3.2 klp13_0.1 f16 hz25 | omega)) (by decide) (show z25.toInt ≤ z3.toInt from by (first | exact om_7fe9249fc074 f16 hz25 | omega)) (Or.inr ⟨rfl, fun i hi h9 => by rcases Decidable.em (i = (Int32.toNatClampNeg y11)) with h8 | h8; (subst h8; omega); exact (xlp13_1.resolve_left (fun h7 => by have h6 := h7.1; omega)).2 i hi (by omega)⟩) (by (first | exact om_9e7d2b874257 hn hz25 | omega)) hP hD hS (lv_sub hl [0, 1, 2, 3, 4, 5] rfl)
          · skip
            have f27 : ((V8 80 (Int32.toNatClampNeg y11))).toInt = p1.toInt := b_eq rfl rfl c23
            refine lv_iconst (v := 1) hx hb dX12_isCandidate_34 (by decide) ?_
            refine lv_goto (tgt := 39) hx hb dX12_isCandidate_35 (by decide) ?_
            refine lv_istore (lv' := [(4, .int 1), (5, .int y11), (3, .int z3), (0, .ref (ad 0)), (1, .int p0), (2, .int p1)]) hx hb dX12_isCandidate_39 hl (by decide) rfl (fun ls hl => ?_)
            obtain ⟨z28, ez28⟩ : ∃ y : Int32, y = y11 + 1 := ⟨_, rfl⟩
            have hz28 : z28.toInt = y11.toInt + 1 := i_add ez28 rfl (by decide) (by (first | exact om_ef5c713ba60b rgz3.2 klp13_0.1 f16 | omega))
            refine lv_iinc (v := z28) (lv' := [(5, .int z28), (4, .int 1), (3, .int z3), (0, .ref (ad 0)), (1, .int p0), (2, .int p1)]) hx hb dX12_isCandidate_41 hl (k := 1) rfl (by rw [ez28]; rfl) (by decide) rfl (fun ls hl => ?_)
            refine lv_goto (tgt := 12) hx hb dX12_isCandidate_44 (by decide) ?_
            have r29 : Int32.toInt 1 = 1 := by decide
            exact ihlp13 z28 1 H locs ls (by (first | exact om_66f93e1729e3 rgz3.2 klp13_0.1 f16 hz28 | omega)) (by decide) (show z28.toInt ≤ z3.toInt from by (first | exact om_7fe9249fc074 f16 hz28 | omega)) (Or.inl ⟨rfl, List.mem_iff_getElem.mpr ⟨(Int32.toNatClampNeg y11), hK9, by omega⟩⟩) (by (first | exact om_9e7d2b874257 hn hz28 | omega)) hP hD hS (lv_sub hl [0, 1, 2, 3, 4, 5] rfl)
  have r30 : Int32.toInt 0 = 0 := by decide
  exact lp13 ((z3.toInt - (Int32.toInt 0) + 1 : Int).toNat) 0 0 H locs ls (by decide) (by decide) (show (Int32.toInt 0) ≤ z3.toInt from by (first | exact om_6f9bb8cf3bec rgz3.1 r30 | omega)) (Or.inr ⟨rfl, fun i _ h9 => absurd h9 (by rw [show (Int32.toInt 0).toNat = 0 from by decide]; exact Nat.not_lt_zero _)⟩) (by (first | exact om_7441a7786481 | omega)) hP hD hS (lv_sub hl [0, 1, 2, 3, 4, 5] rfl)
