/-! the class closes a scope -/
def lopC (V : Vf) (kd dy : Int) (n : Nat) : Int := lopG (fun s => (V 23 s).toInt) (fun s => (V 21 s).toInt) (fun s => (V 22 s).toInt) kd dy n
def innC (V : Vf) (ns : Nat) (sc : Int) : Int := inG (fun s => (V 23 s).toInt) (fun s => (V 21 s).toInt) (fun s => (V 22 s).toInt) ns sc
def lmC (V : Vf) (sc : Int) (n : Nat) : Int := lamG (fun o => (V 28 o).toInt) (fun o => (V 27 o).toInt) (fun o => (V 29 o).toInt) sc n
theorem innC_m {V : Vf} {ns : Nat} {sc r : Int} (h : 0 ≤ r ∧ lopC V 2 (dyG (fun s => (V 23 s).toInt) (fun s => (V 21 s).toInt) (fun s => (V 22 s).toInt) ns sc) ns = r) : r = innC V ns sc := by
  have e : lopG (fun s => (V 23 s).toInt) (fun s => (V 21 s).toInt) (fun s => (V 22 s).toInt) 2 (dyG (fun s => (V 23 s).toInt) (fun s => (V 21 s).toInt) (fun s => (V 22 s).toInt) ns sc) ns = r := h.2
  unfold innC inG
  rw [e, if_pos h.1]
theorem innC_d {V : Vf} {ns : Nat} {sc d : Int} (hd : dyG (fun s => (V 23 s).toInt) (fun s => (V 21 s).toInt) (fun s => (V 22 s).toInt) ns sc = d) (h : lopC V 2 d ns = -1) : (if 0 ≤ d then d else sc) = innC V ns sc := by
  have e : lopG (fun s => (V 23 s).toInt) (fun s => (V 21 s).toInt) (fun s => (V 22 s).toInt) 2 d ns = -1 := h
  unfold innC inG
  rw [hd, e, if_neg (show ¬ (0 : Int) ≤ -1 by decide)]
theorem or01 {x y z : Int32} (e : z = x ||| y) (hx : 0 ≤ x.toInt ∧ x.toInt ≤ 1) (hy : 0 ≤ y.toInt ∧ y.toInt ≤ 1) : (y.toInt = 1 ∧ z.toInt = 1) ∨ (y.toInt = 0 ∧ z.toInt = x.toInt) := by
  have f : ∀ w : Int32, 0 ≤ w.toInt ∧ w.toInt ≤ 1 → w = 0 ∨ w = 1 := fun w h => by
    have h0 : (0 : Int32).toInt = 0 := by decide
    have h1 : (1 : Int32).toInt = 1 := by decide
    by_cases q : w.toInt = 0
    · exact Or.inl (Int32.toInt_inj.mp (by rw [h0]; exact q))
    · exact Or.inr (Int32.toInt_inj.mp (by rw [h1]; omega))
  rcases f x hx with hx | hx <;> rcases f y hy with hy | hy <;> subst hx <;> subst hy <;> subst e <;> decide
theorem dyG_lt {p k d : Nat → Int} {ns : Nat} {sc : Int} (h : sc < (ns : Int)) : dyG p k d ns sc < (ns : Int) := by
  unfold dyG
  split
  · rcases lopG_r (p := p) (k := k) (d := d) (kd := 1) (dy := 0) ns with h1 | h1
    · omega
    · exact h1.2.1
  · exact h
theorem inG_lt {p k d : Nat → Int} {ns : Nat} {sc : Int} (h0 : 0 ≤ sc) (h : sc < (ns : Int)) : 0 ≤ inG p k d ns sc ∧ inG p k d ns sc < (ns : Int) := by
  have d1 := dyG_lt (p := p) (k := k) (d := d) h
  unfold inG
  by_cases a : 0 ≤ lopG p k d 2 (dyG p k d ns sc) ns
  · rw [if_pos a]
    rcases lopG_r (p := p) (k := k) (d := d) (kd := 2) (dy := dyG p k d ns sc) ns with h1 | h1
    · omega
    · exact ⟨a, h1.2.1⟩
  · rw [if_neg a]
    by_cases b : 0 ≤ dyG p k d ns sc
    · rw [if_pos b]
      exact ⟨b, d1⟩
    · rw [if_neg b]
      exact ⟨h0, h⟩
theorem shM_4 {m : Mm} {s : Nat} : shM m s 0 4 = m 0 4 := by
  unfold shM
  rw [if_neg (by omega), if_neg (by omega)]
/-- a day's day is 0 -/
def dzC (V : Vf) : Prop := ∀ s : Nat, 0 < s → (s : Int) < (V 3 12).toInt → ((V 21 s).toInt = 1 ∧ (V 22 s).toInt = 0) ∨ (V 21 s).toInt = 2
theorem dzC.mv {V W : Vf} (h : dzC V) (e0 : W 3 12 = V 3 12) (e1 : ∀ s, W 21 s = V 21 s) (e2 : ∀ s, W 22 s = V 22 s) : dzC W := fun s h1 h2 => by
  rw [e1, e2]
  rw [e0] at h2
  exact h s h1 h2
section CLc
variable {V W : Vf} {ow : Nat → Nat} {B : Bk} {m : Mm}
/-- by the machine's numbers; dzC: a day's day is 0 -/
theorem RWn.innT {ns : Nat} {sc : Int} (h : RWn V ow B m) (hn : (V 3 12).toInt.toNat = ns) (dz : dzC V) : innC V ns sc = inn m ns sc := by
  refine (inG_eq (fun s h1 h2 => ?_)).2
  obtain ⟨⟨hs1, _⟩, hs2, hs3⟩ := h.2.2.2.1
  have z := hs3 s (by omega)
  have e12 := hs2 s (by omega)
  refine ⟨by rw [z.1], e12, ?_⟩
  show (V 22 s).toInt = dyM m s
  unfold dyM
  rcases dz s h1 (by omega) with y | y
  · rw [if_neg (by omega)]
    exact y.2
  · rw [if_pos (by omega)]
    exact (z.2.1 (by omega)).1
theorem RWn.lamT {sc : Int} {n : Nat} (h : RWn V ow B m) (hn : (V 3 13).toInt.toNat = n) : lmC V sc n = lam m sc := by
  have e : m 0 2 = (V 3 13).toInt := h.1.1.2.2.1.symm
  unfold lam lmC
  rw [e, hn]
  exact lamG_eq n (fun o ho => (h.2.1 o (by omega)).1.2.2) (fun o ho => (h.2.1 o (by omega)).1.2.1) (fun o ho h1 => (h.2.1 o (by omega)).2.1 h1)
theorem RWn.z (h : RWn V ow B m) : RWn V ow B (mZ m) := by
  refine h.mv (fun j hj => ?_) (fun x j hx _ => ?_) (fun _ => rfl) rfl rfl rfl (fun _ _ _ _ _ => rfl)
  · unfold mZ
    rw [mU_o _ _ (by omega), mU_o _ _ (by omega), mU_o _ _ (by omega)]
  · unfold mZ
    rw [mU_o _ _ (by omega), mU_o _ _ (by omega), mU_o _ _ (by omega)]
theorem mZ_o {x j : Nat} (h : x ≠ 0) : mZ m x j = m x j := by
  unfold mZ
  rw [mU_o _ _ (by omega), mU_o _ _ (by omega), mU_o _ _ (by omega)]
theorem mZ_6 : mZ m 0 6 = 0 := by
  unfold mZ
  rw [mU_o _ _ (by omega), mU_o _ _ (by omega), mU_s]
theorem mZ_4 {j : Nat} (h : j < 6) : mZ m 0 j = m 0 j := by
  unfold mZ
  rw [mU_o _ _ (by omega), mU_o _ _ (by omega), mU_o _ _ (by omega)]
/-- a scope is shut -/
theorem RWn.shut {s : Nat} (h : RWn V ow B m) (hs : (s : Int) < (V 3 12).toInt) (c23 : ∀ x, x ≠ s → W 23 x = V 23 x) (n23 : (W 23 s).toInt = 0) (c24 : ∀ x, x ≠ s → W 24 x = V 24 x) (n24 : W 24 s = 0) (cc : ∀ c k, c ≠ 23 → c ≠ 24 → c ≤ 37 → W c k = V c k) : RWn W ow B (shM m s) := by
  obtain ⟨ha, hb, hj, hs9, hp⟩ := h
  have ex : ∀ x j, x ≠ 11 → x ≠ 8 → shM m s x j = m x j := fun x j h1 h2 => by
    unfold shM
    rw [if_neg (by omega), if_neg (by omega)]
  refine ⟨?_, ?_, RWj.mv hj (ex 0 2 (by decide) (by decide)) (fun q => ex 6 q (by decide) (by decide)) (fun q => ex 7 q (by decide) (by decide)) (cc _ _ (by decide) (by decide) (by decide)) (fun q => cc _ _ (by decide) (by decide) (by decide)) (fun q => cc _ _ (by decide) (by decide) (by decide)) (fun q => cc _ _ (by decide) (by decide) (by decide)), ?_, ?_⟩
  · obtain ⟨⟨a0, a1, a2, a3⟩, a4, a5⟩ := ha
    refine ⟨⟨by rw [ex 0 0 (by decide) (by decide), cc 5 _ (by decide) (by decide) (by decide)]; exact a0, by rw [ex 0 1 (by decide) (by decide), cc 5 _ (by decide) (by decide) (by decide)]; exact a1, by rw [ex 0 2 (by decide) (by decide), cc 3 _ (by decide) (by decide) (by decide)]; exact a2, by rw [ex 0 3 (by decide) (by decide), cc 3 _ (by decide) (by decide) (by decide)]; exact a3⟩, by rw [ex 0 5 (by decide) (by decide), cc 4 _ (by decide) (by decide) (by decide)]; exact a4, fun i h1 h2 => ?_⟩
    rw [ex 0 5 (by decide) (by decide)] at h2
    rw [ex 9 _ (by decide) (by decide), ex 10 _ (by decide) (by decide), cc 36 _ (by decide) (by decide) (by decide), cc 37 _ (by decide) (by decide) (by decide)]
    exact a5 i h1 h2
  · intro x hx
    rw [ex 0 2 (by decide) (by decide)] at hx
    rw [ex 1 x (by decide) (by decide), ex 2 x (by decide) (by decide), ex 3 x (by decide) (by decide), ex 4 x (by decide) (by decide), cc 26 _ (by decide) (by decide) (by decide), cc 27 _ (by decide) (by decide) (by decide), cc 28 _ (by decide) (by decide) (by decide), cc 29 _ (by decide) (by decide) (by decide), cc 3 _ (by decide) (by decide) (by decide)]
    exact hb x hx
  · obtain ⟨h1, h2, h3⟩ := hs9
    refine ⟨⟨by rw [cc 3 _ (by decide) (by decide) (by decide)]; exact h1.1, fun x e1 e2 => by rw [cc 3 _ (by decide) (by decide) (by decide)] at e1; rw [c24 x (by omega)]; exact h1.2 x e1 e2⟩, fun x hx => by rw [cc 21 _ (by decide) (by decide) (by decide), ex 12 _ (by decide) (by decide)]; exact h2 x hx, fun x hx => ?_⟩
    rw [cc 3 _ (by decide) (by decide) (by decide)] at hx
    have z := h3 x hx
    rw [ex 12 _ (by decide) (by decide), ex 13 _ (by decide) (by decide), cc 22 _ (by decide) (by decide) (by decide), cc 3 _ (by decide) (by decide) (by decide)]
    by_cases q : x = s
    · refine ⟨?_, z.2.1, fun c hc => ?_⟩
      · rw [q]
        unfold shM
        rw [if_pos ⟨rfl, rfl⟩]
        exact n23
      · rw [q, n24, b_0]
        unfold shM
        rw [if_neg (by omega), if_pos ⟨rfl, by omega, by omega⟩]
        exact ⟨fun h => absurd h (by decide), fun h => absurd rfl h⟩
    · refine ⟨?_, z.2.1, fun c hc => ?_⟩
      · rw [c23 x q]
        unfold shM
        rw [if_neg (by omega), if_neg (by omega)]
        exact z.1
      · rw [c24 x q]
        unfold shM
        rw [if_neg (by omega), if_neg (by omega)]
        exact z.2.2 c hc
  · refine ⟨fun pl c hpl hc hsh => ?_, fun x y hxy hy h1 h2 h3 h4 => ?_⟩
    · rw [cc 25 _ (by decide) (by decide) (by decide), hp.1 pl c hpl hc hsh, ex 0 2 (by decide) (by decide)]
      exact (prs_ext _ (fun x _ => by rw [ex 1 x (by decide) (by decide), ex 2 x (by decide) (by decide), ex 3 x (by decide) (by decide)])).symm
    · rw [ex 0 2 (by decide) (by decide)] at hy
      rw [ex 1 x (by decide) (by decide), ex 1 y (by decide) (by decide)] at h1
      rw [ex 2 x (by decide) (by decide), ex 2 y (by decide) (by decide)] at h2
      rw [ex 1 x (by decide) (by decide)] at h3
      rw [ex 3 x (by decide) (by decide)] at h4
      rw [ex 3 y (by decide) (by decide)]
      exact hp.2 x y hxy hy h1 h2 h3 h4
/-- the house's is open again -/
theorem RWn.reop (h : RWn V ow B m) (e : W = up2 V 23 0 1) : RWn W ow B (mU m 11 0 1) := by
  obtain ⟨ha, hb, hj, hs9, hp⟩ := h
  have ex : ∀ x j, x ≠ 11 → mU m 11 0 1 x j = m x j := fun x j h1 => mU_o _ _ (by omega)
  have cc : ∀ c k, c ≠ 23 → W c k = V c k := fun c k h1 => up2_o e h1
  refine ⟨?_, ?_, RWj.mv hj (ex 0 2 (by decide)) (fun q => ex 6 q (by decide)) (fun q => ex 7 q (by decide)) (cc _ _ (by decide)) (fun q => cc _ _ (by decide)) (fun q => cc _ _ (by decide)) (fun q => cc _ _ (by decide)), ?_, ?_⟩
  · obtain ⟨⟨a0, a1, a2, a3⟩, a4, a5⟩ := ha
    refine ⟨⟨by rw [ex 0 0 (by decide), cc 5 _ (by decide)]; exact a0, by rw [ex 0 1 (by decide), cc 5 _ (by decide)]; exact a1, by rw [ex 0 2 (by decide), cc 3 _ (by decide)]; exact a2, by rw [ex 0 3 (by decide), cc 3 _ (by decide)]; exact a3⟩, by rw [ex 0 5 (by decide), cc 4 _ (by decide)]; exact a4, fun i h1 h2 => ?_⟩
    rw [ex 0 5 (by decide)] at h2
    rw [ex 9 _ (by decide), ex 10 _ (by decide), cc 36 _ (by decide), cc 37 _ (by decide)]
    exact a5 i h1 h2
  · intro x hx
    rw [ex 0 2 (by decide)] at hx
    rw [ex 1 x (by decide), ex 2 x (by decide), ex 3 x (by decide), ex 4 x (by decide), cc 26 _ (by decide), cc 27 _ (by decide), cc 28 _ (by decide), cc 29 _ (by decide), cc 3 _ (by decide)]
    exact hb x hx
  · obtain ⟨h1, h2, h3⟩ := hs9
    refine ⟨⟨by rw [cc 3 _ (by decide)]; exact h1.1, fun x e1 e2 => by rw [cc 3 _ (by decide)] at e1; rw [cc 24 _ (by decide)]; exact h1.2 x e1 e2⟩, fun x hx => by rw [cc 21 _ (by decide), ex 12 _ (by decide)]; exact h2 x hx, fun x hx => ?_⟩
    rw [cc 3 _ (by decide)] at hx
    have z := h3 x hx
    rw [ex 12 _ (by decide), ex 13 _ (by decide), cc 22 _ (by decide), cc 3 _ (by decide), cc 24 _ (by decide)]
    refine ⟨?_, z.2.1, fun c hc => by rw [ex 8 _ (by decide)]; exact z.2.2 c hc⟩
    by_cases q : x = 0
    · rw [q, up2_s e, mU_s]
      decide
    · rw [up2_k e q, mU_o _ _ (by omega)]
      exact z.1
  · refine ⟨fun pl c hpl hc hsh => ?_, fun x y hxy hy h1 h2 h3 h4 => ?_⟩
    · rw [cc 25 _ (by decide), hp.1 pl c hpl hc hsh, ex 0 2 (by decide)]
      exact (prs_ext _ (fun x _ => by rw [ex 1 x (by decide), ex 2 x (by decide), ex 3 x (by decide)])).symm
    · rw [ex 0 2 (by decide)] at hy
      rw [ex 1 x (by decide), ex 1 y (by decide)] at h1
      rw [ex 2 x (by decide), ex 2 y (by decide)] at h2
      rw [ex 1 x (by decide)] at h3
      rw [ex 3 x (by decide)] at h4
      rw [ex 3 y (by decide)]
      exact hp.2 x y hxy hy h1 h2 h3 h4
end CLc
/-- what is still to be done: k turns, from x on -/
def CLw (V : Vf) (B : Bk) (ns : Nat) (sc : Int) (y : CS) (k : Nat) (x : CS) : Prop := CLs B ns sc k x y ∧ (∃ ow, RWn V ow B x.1) ∧ x.1 0 4 = 0
/-- .. a scope -/
theorem CL1.s {B : Bk} {ns : Nat} {sc : Int} {x z : CS} (h : CL1 B ns sc x z) (q : lam x.1 (inn x.1 ns sc) < 0) : z = (shM x.1 (inn x.1 ns sc).toNat, x.2.1, x.2.2) := by
  rcases h with ⟨_, h⟩ | ⟨h, _⟩
  · exact h
  · omega
/-- .. an object -/
theorem CL1.o {B : Bk} {ns : Nat} {sc : Int} {x z : CS} (h : CL1 B ns sc x z) (q : 0 ≤ lam x.1 (inn x.1 ns sc)) : ∃ m a, TRs B (mZ x.1, 0, [Fclo0 0 (lam x.1 (inn x.1 ns sc)) (x.1 1 (lam x.1 (inn x.1 ns sc)).toNat) (x.1 2 (lam x.1 (inn x.1 ns sc)).toNat)]) (m, a, []) ∧ m 0 4 = 0 ∧ z = (mZ m, (if m 0 6 = 3 then 1 else x.2.1), x.2.2 + 1) := by
  rcases h with ⟨h, _⟩ | ⟨_, h⟩
  · omega
  · exact h


abbrev r_x_latestOpen9 : Room := { frames := 0, cells := 0, slots := 0, locals := 0 }
abbrev q_x_latestOpen9 (D : va_G) (ks : KS) (ad : Nat → Nat) (kk : Nat → ClassId) (V : Vf) (L : Lf) (Z : XZ) (p0 : Int32) (p1 : Int32) (A : Nat → Prop) : Array Value → State → Outcome → State → Prop := va_Qi (fun (r : Int32) (_ : Unit) => ((-1) ≤ r.toInt ∧ r.toInt ≤ 39) ∧ (r.toInt = lopC V p0.toInt p1.toInt (V 3 12).toInt.toNat)) (fun _ t => gq D A (xw ad kk V L Z) (xty kk Z) t) A
set_option maxHeartbeats 4000000 in
set_option maxRecDepth 100000 in
theorem x_latestOpen9 (l : Launch) (D : va_G) (ks : KS) (sz : Nat) (ad : Nat → Nat) (kk : Nat → ClassId) (V : Vf) (L : Lf) (Z : XZ) (p0 : Int32) (p1 : Int32) (hMV : rgd bX V)  : Met l yX8_latestOpen (Cond.code yX8_latestOpen cX8_latestOpen 4 (some .int) :: GW) r_x_latestOpen9 (va_Pc [.ref (ad 3), .int p0, .int p1] (gp D ks (xw ad kk V L Z) (xty kk Z) sz)) (q_x_latestOpen9 D ks ad kk V L Z p0 p1 (va_A (xw ad kk V L Z) sz)) 0 0 (va_A (xw ad kk V L Z) sz) := by
  refine g_met (q_x_latestOpen9 D ks ad kk V L Z p0 p1) (by decide) (Nat.le_of_ble_eq_true rfl) ?_
  intro p e s m below meth c A ls H locs hx hb hr hml hown hg hlocks hin hnw hgk hP hK hD hS hA hl
  replace hown : s.vm.findClass RX8 = some m.cls := hown
  replace hl : lv_has ls 4 [(0, .ref (ad 3)), (1, .int p0), (2, .int p1)] := hl
  replace hP : va_P D vwCl (xw ad kk V L Z) H := hP
  replace hD : va_D A (xw ad kk V L Z) := hD
  replace hK : va_K D vwCl (xty kk Z) s := hK
  refine lv_aload_n hx hb dX8_latestOpen_0 rfl (lv_at hl 0 rfl) ?_
  refine va_get (D := D) (ci := 8) (v := .int (V 3 12)) (fs := (xfStock ad V L Z)) (C := RX8) (T := TX8) (N := 16) hx hb hg inX8 hown hK hP 3 xgStock rfl 12 (by decide) (hg _ w390) (fun _ h9 => h9) rfl dX8_latestOpen_1 ?_
  have r1 : 1 ≤ ((V 3 12)).toInt ∧ ((V 3 12)).toInt ≤ 40 := hMV 3 12
  refine lv_iconst (v := 1) hx hb dX8_latestOpen_4 (by decide) ?_
  refine lv_isub hx hb dX8_latestOpen_5 ?_
  refine lv_topi (fun z2 ez2 => ?_)
  have hz2 : z2.toInt = ((V 3 12)).toInt - 1 := i_sub ez2 rfl (by decide) (by (first | exact om_e77d46198aca r1.1 r1.2 | omega))
  refine lv_istore_n (lv' := [(3, .int z2), (0, .ref (ad 3)), (1, .int p0), (2, .int p1)]) hx hb dX8_latestOpen_6 rfl hl (by decide) rfl (fun ls hl => ?_)
  have lp4 : ∀ (fulp4 : Nat) (y3 : Int32) (H : Heap) (locs : List Loc) (ls : Array Slot), 0 ≤ y3.toInt ∧ y3.toInt ≤ 39 → (lopC V p0.toInt p1.toInt (y3.toInt + 1).toNat = lopC V p0.toInt p1.toInt (V 3 12).toInt.toNat) → y3.toInt < (fulp4 : Int) → va_P D vwCl (xw ad kk V L Z) H → va_D A (xw ad kk V L Z) → va_S A s.heap H locs → lv_has ls 4 [(3, .int y3), (0, .ref (ad 3)), (1, .int p0), (2, .int p1)] → W p l e r_x_latestOpen9 s m ([.ref (ad 3), .int p0, .int p1] : List Value).toArray below meth c H locs 0 0 (MQ below (q_x_latestOpen9 D ks ad kk V L Z p0 p1 A) ([.ref (ad 3), .int p0, .int p1] : List Value).toArray s 0 0 A) (F0 m 7 ls []) := by
    intro fulp4
    induction fulp4 with
    | zero =>
      intro y3 H locs ls klp4_0 xlp4_0 hn  hP hD hS hl
      exfalso; (first | exact om_21e89d3d06d7 klp4_0.1 hn | omega)
    | succ fulp4 ihlp4 =>
      intro y3 H locs ls klp4_0 xlp4_0 hn  hP hD hS hl
      refine lv_iload_n hx hb dX8_latestOpen_7 rfl (lv_at hl 0 rfl) ?_
      refine lv_if_le (tgt := 48) hx hb dX8_latestOpen_8 (by decide) (fun c5 => ?_) (fun c5 => ?_)
      · skip
        have f6 : y3.toInt ≤ 0 := b_le rfl (by decide) c5
        refine lv_iconst (v := (-1)) hx hb dX8_latestOpen_48 (by decide) ?_
        have ky9 := i_clamp (x := y3) rfl (by (first | exact om_eafa9039069c klp4_0.1 | omega))
        have lr7 : Int32.toInt (-1) = lopC V p0.toInt p1.toInt (V 3 12).toInt.toNat := by
          rw [← xlp4_0, show (y3.toInt + 1).toNat = 0 + 1 from by omega]
          exact (show Int32.toInt (-1) = -1 from by decide).trans (lopG_n (s := 0) (fun h9 => absurd h9.1 (by decide))).symm
        exact W.iret (v := (-1)) hx hb hr (fun t ht hW => ⟨⟨(-1), (), rfl, ⟨(by decide), lr7⟩, by rw [ht]; exact hP, va_K.moved hW.alike hK, hD⟩, hS.F ht⟩) hS.2.2 dX8_latestOpen_49
      · skip
        have f8 : 0 < y3.toInt := b_nle rfl (by decide) c5
        refine lv_aload_n hx hb dX8_latestOpen_11 rfl (lv_at hl 1 rfl) ?_
        refine va_get (D := D) (ci := 8) (v := .ref (ad 20)) (fs := (xfStock ad V L Z)) (C := RX8) (T := TX8) (N := 16) hx hb hg inX8 hown hK hP 3 xgStock rfl 2 (by decide) (hg _ w376) (fun _ h9 => h9) rfl dX8_latestOpen_12 ?_
        refine lv_iload_n hx hb dX8_latestOpen_15 rfl (lv_at hl 0 rfl) ?_
        refine va_zald (D := D) (i := y3) hx hb hK hP 20 13 rfl rfl (i_in (a := y3.toInt) rfl (by (first | exact om_4e39fc579b00 klp4_0.2 f8 | omega))) dX8_latestOpen_16 ?_
        have r9 : 0 ≤ ((V 23 (Int32.toNatClampNeg y3))).toInt ∧ ((V 23 (Int32.toNatClampNeg y3))).toInt ≤ 1 := hMV 23 (Int32.toNatClampNeg y3)
        refine lv_if_eq (tgt := 42) hx hb dX8_latestOpen_17 (by decide) (fun c10 => ?_) (fun c10 => ?_)
        · skip
          have f11 : ((V 23 (Int32.toNatClampNeg y3))).toInt = 0 := b_eq rfl (by decide) c10
          obtain ⟨z12, ez12⟩ : ∃ y : Int32, y = y3 + (-1) := ⟨_, rfl⟩
          have hz12 : z12.toInt = y3.toInt + (-1) := i_add ez12 rfl (by decide) (by (first | exact om_38bbca15f2be klp4_0.2 f8 | omega))
          refine lv_iinc (v := z12) (lv' := [(3, .int z12), (0, .ref (ad 3)), (1, .int p0), (2, .int p1)]) hx hb dX8_latestOpen_42 hl (k := 0) rfl (by rw [ez12]; rfl) (by decide) rfl (fun ls hl => ?_)
          refine lv_goto (tgt := 7) hx hb dX8_latestOpen_45 (by decide) ?_
          have ky9 := i_clamp (x := y3) rfl (by (first | exact om_610a4af05d44 f8 | omega))
          have lo13 : lopC V p0.toInt p1.toInt (z12.toInt + 1).toNat = lopC V p0.toInt p1.toInt (V 3 12).toInt.toNat := by rw [← xlp4_0, show (y3.toInt + 1).toNat = (Int32.toNatClampNeg y3) + 1 from by omega, show (z12.toInt + 1).toNat = (Int32.toNatClampNeg y3) from by omega]; exact (lopG_n (fun h9 => by have h1 : (V 23 (Int32.toNatClampNeg y3)).toInt ≠ 0 := h9.2.1; have h2 : (V 21 (Int32.toNatClampNeg y3)).toInt = p0.toInt := h9.2.2.1; have h3 : (V 22 (Int32.toNatClampNeg y3)).toInt = p1.toInt := h9.2.2.2; omega)).symm
          exact ihlp4 z12 H locs ls (by (first | exact om_0934def82ed5 klp4_0.2 f8 hz12 | omega)) lo13 (by (first | exact om_46f113951c8c hn hz12 | omega)) hP hD hS (lv_sub hl [0, 1, 2, 3] rfl)
        · skip
          have f14 : ((V 23 (Int32.toNatClampNeg y3))).toInt ≠ 0 := b_neq rfl (by decide) c10
          refine lv_aload_n hx hb dX8_latestOpen_20 rfl (lv_at hl 1 rfl) ?_
          refine va_get (D := D) (ci := 8) (v := .ref (ad 18)) (fs := (xfStock ad V L Z)) (C := RX8) (T := TX8) (N := 16) hx hb hg inX8 hown hK hP 3 xgStock rfl 0 (by decide) (hg _ w373) (fun _ h9 => h9) rfl dX8_latestOpen_21 ?_
          refine lv_iload_n hx hb dX8_latestOpen_24 rfl (lv_at hl 0 rfl) ?_
          refine va_iald (D := D) (i := y3) hx hb hK hP 18 11 rfl rfl (i_in (a := y3.toInt) rfl (by (first | exact om_4e39fc579b00 klp4_0.2 f8 | omega))) dX8_latestOpen_25 ?_
          refine lv_iload_n hx hb dX8_latestOpen_26 rfl (lv_at hl 2 rfl) ?_
          refine lv_icmp_ne (tgt := 42) hx hb dX8_latestOpen_27 (by decide) (fun c15 => ?_) (fun c15 => ?_)
          · skip
            have f16 : ((V 21 (Int32.toNatClampNeg y3))).toInt ≠ p0.toInt := b_neq rfl rfl c15
            obtain ⟨z17, ez17⟩ : ∃ y : Int32, y = y3 + (-1) := ⟨_, rfl⟩
            have hz17 : z17.toInt = y3.toInt + (-1) := i_add ez17 rfl (by decide) (by (first | exact om_38bbca15f2be klp4_0.2 f8 | omega))
            refine lv_iinc (v := z17) (lv' := [(3, .int z17), (0, .ref (ad 3)), (1, .int p0), (2, .int p1)]) hx hb dX8_latestOpen_42 hl (k := 0) rfl (by rw [ez17]; rfl) (by decide) rfl (fun ls hl => ?_)
            refine lv_goto (tgt := 7) hx hb dX8_latestOpen_45 (by decide) ?_
            have ky9 := i_clamp (x := y3) rfl (by (first | exact om_610a4af05d44 f8 | omega))
            have lo18 : lopC V p0.toInt p1.toInt (z17.toInt + 1).toNat = lopC V p0.toInt p1.toInt (V 3 12).toInt.toNat := by rw [← xlp4_0, show (y3.toInt + 1).toNat = (Int32.toNatClampNeg y3) + 1 from by omega, show (z17.toInt + 1).toNat = (Int32.toNatClampNeg y3) from by omega]; exact (lopG_n (fun h9 => by have h1 : (V 23 (Int32.toNatClampNeg y3)).toInt ≠ 0 := h9.2.1; have h2 : (V 21 (Int32.toNatClampNeg y3)).toInt = p0.toInt := h9.2.2.1; have h3 : (V 22 (Int32.toNatClampNeg y3)).toInt = p1.toInt := h9.2.2.2; omega)).symm
            exact ihlp4 z17 H locs ls (by (first | exact om_0934def82ed5 klp4_0.2 f8 hz17 | omega)) lo18 (by (first | exact om_46f113951c8c hn hz17 | omega)) hP hD hS (lv_sub hl [0, 1, 2, 3] rfl)
          · skip
            have f19 : ((V 21 (Int32.toNatClampNeg y3))).toInt = p0.toInt := b_eq rfl rfl c15
            refine lv_aload_n hx hb dX8_latestOpen_30 rfl (lv_at hl 1 rfl) ?_
            refine va_get (D := D) (ci := 8) (v := .ref (ad 19)) (fs := (xfStock ad V L Z)) (C := RX8) (T := TX8) (N := 16) hx hb hg inX8 hown hK hP 3 xgStock rfl 1 (by decide) (hg _ w375) (fun _ h9 => h9) rfl dX8_latestOpen_31 ?_
            refine lv_iload_n hx hb dX8_latestOpen_34 rfl (lv_at hl 0 rfl) ?_
            refine va_iald (D := D) (i := y3) hx hb hK hP 19 12 rfl rfl (i_in (a := y3.toInt) rfl (by (first | exact om_4e39fc579b00 klp4_0.2 f8 | omega))) dX8_latestOpen_35 ?_
            have r20 : 0 ≤ ((V 22 (Int32.toNatClampNeg y3))).toInt ∧ ((V 22 (Int32.toNatClampNeg y3))).toInt ≤ 39 := hMV 22 (Int32.toNatClampNeg y3)
            refine lv_iload_n hx hb dX8_latestOpen_36 rfl (lv_at hl 3 rfl) ?_
            refine lv_icmp_ne (tgt := 42) hx hb dX8_latestOpen_37 (by decide) (fun c21 => ?_) (fun c21 => ?_)
            · skip
              have f22 : ((V 22 (Int32.toNatClampNeg y3))).toInt ≠ p1.toInt := b_neq rfl rfl c21
              obtain ⟨z23, ez23⟩ : ∃ y : Int32, y = y3 + (-1) := ⟨_, rfl⟩
              have hz23 : z23.toInt = y3.toInt + (-1) := i_add ez23 rfl (by decide) (by (first | exact om_38bbca15f2be klp4_0.2 f8 | omega))
              refine lv_iinc (v := z23) (lv' := [(3, .int z23), (0, .ref (ad 3)), (1, .int p0), (2, .int p1)]) hx hb dX8_latestOpen_42 hl (k := 0) rfl (by rw [ez23]; rfl) (by decide) rfl (fun ls hl => ?_)
              refine lv_goto (tgt := 7) hx hb dX8_latestOpen_45 (by decide) ?_
              have ky9 := i_clamp (x := y3) rfl (by (first | exact om_610a4af05d44 f8 | omega))
              have lo24 : lopC V p0.toInt p1.toInt (z23.toInt + 1).toNat = lopC V p0.toInt p1.toInt (V 3 12).toInt.toNat := by rw [← xlp4_0, show (y3.toInt + 1).toNat = (Int32.toNatClampNeg y3) + 1 from by omega, show (z23.toInt + 1).toNat = (Int32.toNatClampNeg y3) from by omega]; exact (lopG_n (fun h9 => by have h1 : (V 23 (Int32.toNatClampNeg y3)).toInt ≠ 0 := h9.2.1; have h2 : (V 21 (Int32.toNatClampNeg y3)).toInt = p0.toInt := h9.2.2.1; have h3 : (V 22 (Int32.toNatClampNeg y3)).toInt = p1.toInt := h9.2.2.2; omega)).symm
              exact ihlp4 z23 H locs ls (by (first | exact om_0934def82ed5 klp4_0.2 f8 hz23 | omega)) lo24 (by (first | exact om_46f113951c8c hn hz23 | omega)) hP hD hS (lv_sub hl [0, 1, 2, 3] rfl)
            · skip
              have f25 : ((V 22 (Int32.toNatClampNeg y3))).toInt = p1.toInt := b_eq rfl rfl c21
              refine lv_iload_n hx hb dX8_latestOpen_40 rfl (lv_at hl 0 rfl) ?_
              have ky9 := i_clamp (x := y3) rfl (by (first | exact om_610a4af05d44 f8 | omega))
              have lr26 : y3.toInt = lopC V p0.toInt p1.toInt (V 3 12).toInt.toNat := by
                rw [← xlp4_0, show (y3.toInt + 1).toNat = (Int32.toNatClampNeg y3) + 1 from by omega, show y3.toInt = (((Int32.toNatClampNeg y3) : Nat) : Int) from by omega]
                exact (lopG_y ⟨by omega, (show (V 23 (Int32.toNatClampNeg y3)).toInt ≠ 0 from by (first | exact om_dc4480632432 r9.1 f14 | omega)), (show (V 21 (Int32.toNatClampNeg y3)).toInt = p0.toInt from by (first | exact om_570b691c1130 f19 | omega)), (show (V 22 (Int32.toNatClampNeg y3)).toInt = p1.toInt from by (first | exact om_570b691c1130 f25 | omega))⟩).symm
              exact W.iret (v := y3) hx hb hr (fun t ht hW => ⟨⟨y3, (), rfl, ⟨(show (-1) ≤ y3.toInt ∧ y3.toInt ≤ 39 from by (first | exact om_f73bf33877bf klp4_0.2 f8 | omega)), lr26⟩, by rw [ht]; exact hP, va_K.moved hW.alike hK, hD⟩, hS.F ht⟩) hS.2.2 dX8_latestOpen_41
  have li9 : (z2.toInt + 1).toNat = (V 3 12).toInt.toNat := by omega
  exact lp4 ((z2.toInt + 1 : Int).toNat) z2 H locs ls (by (first | exact om_e561bb5b3d47 r1.1 r1.2 hz2 | omega)) (by rw [li9]) (by (first | exact om_9011110baf36 | omega)) hP hD hS (lv_sub hl [0, 1, 2, 3] rfl)
abbrev r_x_innermost9 : Room := { frames := 1, cells := 0, slots := 0, locals := 23 }
abbrev q_x_innermost9 (D : va_G) (ks : KS) (ad : Nat → Nat) (kk : Nat → ClassId) (V : Vf) (L : Lf) (Z : XZ) (p0 : Int32) (A : Nat → Prop) : Array Value → State → Outcome → State → Prop := va_Qi (fun (r : Int32) (_ : Unit) => (0 ≤ r.toInt ∧ r.toInt ≤ 39) ∧ (r.toInt = innC V (V 3 12).toInt.toNat p0.toInt)) (fun _ t => gq D A (xw ad kk V L Z) (xty kk Z) t) A
set_option maxHeartbeats 4000000 in
set_option maxRecDepth 100000 in
theorem x_innermost9 (l : Launch) (D : va_G) (ks : KS) (sz : Nat) (ad : Nat → Nat) (kk : Nat → ClassId) (V : Vf) (L : Lf) (Z : XZ) (p0 : Int32) (hMV : rgd bX V) (rg_p0 : 0 ≤ p0.toInt ∧ p0.toInt ≤ 39)  : Met l yX8_innermost (Cond.code yX8_innermost cX8_innermost 4 (some .int) :: GW) r_x_innermost9 (va_Pc [.ref (ad 3), .int p0] (gp D ks (xw ad kk V L Z) (xty kk Z) sz)) (q_x_innermost9 D ks ad kk V L Z p0 (va_A (xw ad kk V L Z) sz)) 0 0 (va_A (xw ad kk V L Z) sz) := by
  refine g_met (q_x_innermost9 D ks ad kk V L Z p0) (by decide) (Nat.le_of_ble_eq_true rfl) ?_
  intro p e s m below meth c A ls H locs hx hb hr hml hown hg hlocks hin hnw hgk hP hK hD hS hA hl
  replace hown : s.vm.findClass RX8 = some m.cls := hown
  replace hl : lv_has ls 4 [(0, .ref (ad 3)), (1, .int p0)] := hl
  replace hP : va_P D vwCl (xw ad kk V L Z) H := hP
  replace hD : va_D A (xw ad kk V L Z) := hD
  replace hK : va_K D vwCl (xty kk Z) s := hK
  refine lv_iload_n hx hb dX8_innermost_0 rfl (lv_at hl 1 rfl) ?_
  refine lv_istore_n (lv' := [(2, .int p0), (0, .ref (ad 3)), (1, .int p0)]) hx hb dX8_innermost_1 rfl hl (by decide) rfl (fun ls hl => ?_)
  refine lv_iload_n hx hb dX8_innermost_2 rfl (lv_at hl 2 rfl) ?_
  refine lv_if_ne (tgt := 13) hx hb dX8_innermost_3 (by decide) (fun c1 => ?_) (fun c1 => ?_)
  · skip
    have f2 : p0.toInt ≠ 0 := b_neq rfl (by decide) c1
    refine lv_aload_n hx hb dX8_innermost_13 rfl (lv_at hl 1 rfl) ?_
    refine lv_iconst (v := 2) hx hb dX8_innermost_14 (by decide) ?_
    refine lv_iload_n hx hb dX8_innermost_15 rfl (lv_at hl 0 rfl) ?_
    have r3 : Int32.toInt 2 = 2 := by decide
    refine gA_int (gA_runV (As := [.int 2, .int p0]) (rest := []) (ci := 8) (q0 := 3) hx hb hml hown hg hP hD hK hS hA hnw hgk (x_latestOpen9 l D ks H.size ad kk V L Z 2 p0 hMV ) w1528 w1530 w79 w164 w1531 rfl xgStock hdV_yX8_latestOpen ⟨Nat.le_of_ble_eq_true rfl, Nat.le_of_ble_eq_true rfl⟩ rfl hl.1 rfl (Nat.le_of_ble_eq_true rfl) dX8_innermost_16 ⟨Nat.le_of_ble_eq_true rfl, Nat.le_of_ble_eq_true rfl⟩) hP hD hK hS hA (fun z4 u5 H locs w6 hP hD hK hS => ?_)
    obtain ⟨rgz4, t7⟩ := w6
    replace rgz4 : (-1) ≤ z4.toInt ∧ z4.toInt ≤ 39 := rgz4
    replace t7 : z4.toInt = lopC V (Int32.toInt 2) p0.toInt (V 3 12).toInt.toNat := t7
    refine lv_istore_n (lv' := [(3, .int z4), (2, .int p0), (0, .ref (ad 3)), (1, .int p0)]) hx hb dX8_innermost_19 rfl hl (by decide) rfl (fun ls hl => ?_)
    refine lv_iload_n hx hb dX8_innermost_20 rfl (lv_at hl 0 rfl) ?_
    refine lv_iconst (v := (-1)) hx hb dX8_innermost_21 (by decide) ?_
    refine lv_icmp_eq (tgt := 29) hx hb dX8_innermost_22 (by decide) (fun c8 => ?_) (fun c8 => ?_)
    · skip
      have f9 : z4.toInt = (-1) := b_eq rfl (by decide) c8
      refine lv_iload_n hx hb dX8_innermost_29 rfl (lv_at hl 1 rfl) ?_
      refine lv_iconst (v := (-1)) hx hb dX8_innermost_30 (by decide) ?_
      refine lv_icmp_eq (tgt := 38) hx hb dX8_innermost_31 (by decide) (fun c10 => ?_) (fun c10 => ?_)
      · skip
        have f11 : p0.toInt = (-1) := b_eq rfl (by decide) c10
        exfalso; (first | exact om_a3c3ab3149d1 rg_p0.1 f2 f11 | omega)
      · skip
        have f12 : p0.toInt ≠ (-1) := b_neq rfl (by decide) c10
        refine lv_iload_n hx hb dX8_innermost_34 rfl (lv_at hl 1 rfl) ?_
        refine lv_goto (tgt := 39) hx hb dX8_innermost_35 (by decide) ?_
        have d1 : Int32.toInt 1 = 1 := by decide
        have d2 : Int32.toInt 2 = 2 := by decide
        have d0 : Int32.toInt 0 = 0 := by decide
        have m1 : Int32.toInt (-1) = -1 := by decide
        have dy9 : dyG (fun s => (V 23 s).toInt) (fun s => (V 21 s).toInt) (fun s => (V 22 s).toInt) (V 3 12).toInt.toNat p0.toInt = p0.toInt := by unfold dyG; exact if_neg (by omega)
        have lo9 := t7
        rw [d2] at lo9
        have ir13 : p0.toInt = innC V (V 3 12).toInt.toNat p0.toInt := by
          rcases Decidable.em (0 ≤ lopC V 2 (p0.toInt) (V 3 12).toInt.toNat) with h9 | h9
          · exact innC_m ⟨by omega, by rw [dy9]; omega⟩
          · rw [← innC_d dy9 (by have h8 := lopG_r (p := fun s => (V 23 s).toInt) (k := fun s => (V 21 s).toInt) (d := fun s => (V 22 s).toInt) (kd := 2) (dy := p0.toInt) (V 3 12).toInt.toNat; have h7 : lopC V 2 (p0.toInt) (V 3 12).toInt.toNat = -1 ∨ 0 < lopC V 2 (p0.toInt) (V 3 12).toInt.toNat := h8.imp id (fun z => z.1); omega)]
            split <;> omega
        exact W.iret (v := p0) hx hb hr (fun t ht hW => ⟨⟨p0, (), rfl, ⟨(show 0 ≤ p0.toInt ∧ p0.toInt ≤ 39 from by omega), ir13⟩, by rw [ht]; exact hP, va_K.moved hW.alike hK, hD⟩, hS.F ht⟩) hS.2.2 dX8_innermost_39
    · skip
      have f14 : z4.toInt ≠ (-1) := b_neq rfl (by decide) c8
      refine lv_iload_n hx hb dX8_innermost_25 rfl (lv_at hl 0 rfl) ?_
      refine lv_goto (tgt := 39) hx hb dX8_innermost_26 (by decide) ?_
      have d1 : Int32.toInt 1 = 1 := by decide
      have d2 : Int32.toInt 2 = 2 := by decide
      have d0 : Int32.toInt 0 = 0 := by decide
      have m1 : Int32.toInt (-1) = -1 := by decide
      have dy9 : dyG (fun s => (V 23 s).toInt) (fun s => (V 21 s).toInt) (fun s => (V 22 s).toInt) (V 3 12).toInt.toNat p0.toInt = p0.toInt := by unfold dyG; exact if_neg (by omega)
      have lo9 := t7
      rw [d2] at lo9
      have ir15 : z4.toInt = innC V (V 3 12).toInt.toNat p0.toInt := by
        rcases Decidable.em (0 ≤ lopC V 2 (p0.toInt) (V 3 12).toInt.toNat) with h9 | h9
        · exact innC_m ⟨by omega, by rw [dy9]; omega⟩
        · rw [← innC_d dy9 (by have h8 := lopG_r (p := fun s => (V 23 s).toInt) (k := fun s => (V 21 s).toInt) (d := fun s => (V 22 s).toInt) (kd := 2) (dy := p0.toInt) (V 3 12).toInt.toNat; have h7 : lopC V 2 (p0.toInt) (V 3 12).toInt.toNat = -1 ∨ 0 < lopC V 2 (p0.toInt) (V 3 12).toInt.toNat := h8.imp id (fun z => z.1); omega)]
          split <;> omega
      exact W.iret (v := z4) hx hb hr (fun t ht hW => ⟨⟨z4, (), rfl, ⟨(show 0 ≤ z4.toInt ∧ z4.toInt ≤ 39 from by (first | exact om_8305e47bdc88 rgz4.1 rgz4.2 f14 | omega)), ir15⟩, by rw [ht]; exact hP, va_K.moved hW.alike hK, hD⟩, hS.F ht⟩) hS.2.2 dX8_innermost_39
  · skip
    have f16 : p0.toInt = 0 := b_eq rfl (by decide) c1
    refine lv_aload_n hx hb dX8_innermost_6 rfl (lv_at hl 1 rfl) ?_
    refine lv_iconst (v := 1) hx hb dX8_innermost_7 (by decide) ?_
    refine lv_iconst (v := 0) hx hb dX8_innermost_8 (by decide) ?_
    have r17 : Int32.toInt 1 = 1 := by decide
    have r18 : Int32.toInt 0 = 0 := by decide
    refine gA_int (gA_runV (As := [.int 1, .int 0]) (rest := []) (ci := 8) (q0 := 3) hx hb hml hown hg hP hD hK hS hA hnw hgk (x_latestOpen9 l D ks H.size ad kk V L Z 1 0 hMV ) w1528 w1530 w79 w164 w1531 rfl xgStock hdV_yX8_latestOpen ⟨Nat.le_of_ble_eq_true rfl, Nat.le_of_ble_eq_true rfl⟩ rfl hl.1 rfl (Nat.le_of_ble_eq_true rfl) dX8_innermost_9 ⟨Nat.le_of_ble_eq_true rfl, Nat.le_of_ble_eq_true rfl⟩) hP hD hK hS hA (fun z19 u20 H locs w21 hP hD hK hS => ?_)
    obtain ⟨rgz19, t22⟩ := w21
    replace rgz19 : (-1) ≤ z19.toInt ∧ z19.toInt ≤ 39 := rgz19
    replace t22 : z19.toInt = lopC V (Int32.toInt 1) (Int32.toInt 0) (V 3 12).toInt.toNat := t22
    refine lv_istore_n (lv' := [(2, .int z19), (0, .ref (ad 3)), (1, .int p0)]) hx hb dX8_innermost_12 rfl hl (by decide) rfl (fun ls hl => ?_)
    refine lv_aload_n hx hb dX8_innermost_13 rfl (lv_at hl 1 rfl) ?_
    refine lv_iconst (v := 2) hx hb dX8_innermost_14 (by decide) ?_
    refine lv_iload_n hx hb dX8_innermost_15 rfl (lv_at hl 0 rfl) ?_
    have r23 : Int32.toInt 2 = 2 := by decide
    refine gA_int (gA_runV (As := [.int 2, .int z19]) (rest := []) (ci := 8) (q0 := 3) hx hb hml hown hg hP hD hK hS hA hnw hgk (x_latestOpen9 l D ks H.size ad kk V L Z 2 z19 hMV ) w1528 w1530 w79 w164 w1531 rfl xgStock hdV_yX8_latestOpen ⟨Nat.le_of_ble_eq_true rfl, Nat.le_of_ble_eq_true rfl⟩ rfl hl.1 rfl (Nat.le_of_ble_eq_true rfl) dX8_innermost_16 ⟨Nat.le_of_ble_eq_true rfl, Nat.le_of_ble_eq_true rfl⟩) hP hD hK hS hA (fun z24 u25 H locs w26 hP hD hK hS => ?_)
    obtain ⟨rgz24, t27⟩ := w26
    replace rgz24 : (-1) ≤ z24.toInt ∧ z24.toInt ≤ 39 := rgz24
    replace t27 : z24.toInt = lopC V (Int32.toInt 2) z19.toInt (V 3 12).toInt.toNat := t27
    refine lv_istore_n (lv' := [(3, .int z24), (2, .int z19), (0, .ref (ad 3)), (1, .int p0)]) hx hb dX8_innermost_19 rfl hl (by decide) rfl (fun ls hl => ?_)
    refine lv_iload_n hx hb dX8_innermost_20 rfl (lv_at hl 0 rfl) ?_
    refine lv_iconst (v := (-1)) hx hb dX8_innermost_21 (by decide) ?_
    refine lv_icmp_eq (tgt := 29) hx hb dX8_innermost_22 (by decide) (fun c28 => ?_) (fun c28 => ?_)
    · skip
      have f29 : z24.toInt = (-1) := b_eq rfl (by decide) c28
      refine lv_iload_n hx hb dX8_innermost_29 rfl (lv_at hl 1 rfl) ?_
      refine lv_iconst (v := (-1)) hx hb dX8_innermost_30 (by decide) ?_
      refine lv_icmp_eq (tgt := 38) hx hb dX8_innermost_31 (by decide) (fun c30 => ?_) (fun c30 => ?_)
      · skip
        have f31 : z19.toInt = (-1) := b_eq rfl (by decide) c30
        refine lv_iload_n hx hb dX8_innermost_38 rfl (lv_at hl 3 rfl) ?_
        have d1 : Int32.toInt 1 = 1 := by decide
        have d2 : Int32.toInt 2 = 2 := by decide
        have d0 : Int32.toInt 0 = 0 := by decide
        have m1 : Int32.toInt (-1) = -1 := by decide
        have dy9 : dyG (fun s => (V 23 s).toInt) (fun s => (V 21 s).toInt) (fun s => (V 22 s).toInt) (V 3 12).toInt.toNat p0.toInt = z19.toInt := by have h9 := t22; rw [d1, d0] at h9; unfold dyG; rw [if_pos (by omega)]; exact h9.symm
        have lo9 := t27
        rw [d2] at lo9
        have ir32 : p0.toInt = innC V (V 3 12).toInt.toNat p0.toInt := by
          rcases Decidable.em (0 ≤ lopC V 2 (z19.toInt) (V 3 12).toInt.toNat) with h9 | h9
          · exact innC_m ⟨by omega, by rw [dy9]; omega⟩
          · rw [← innC_d dy9 (by have h8 := lopG_r (p := fun s => (V 23 s).toInt) (k := fun s => (V 21 s).toInt) (d := fun s => (V 22 s).toInt) (kd := 2) (dy := z19.toInt) (V 3 12).toInt.toNat; have h7 : lopC V 2 (z19.toInt) (V 3 12).toInt.toNat = -1 ∨ 0 < lopC V 2 (z19.toInt) (V 3 12).toInt.toNat := h8.imp id (fun z => z.1); omega)]
            split <;> omega
        exact W.iret (v := p0) hx hb hr (fun t ht hW => ⟨⟨p0, (), rfl, ⟨(show 0 ≤ p0.toInt ∧ p0.toInt ≤ 39 from by omega), ir32⟩, by rw [ht]; exact hP, va_K.moved hW.alike hK, hD⟩, hS.F ht⟩) hS.2.2 dX8_innermost_39
      · skip
        have f33 : z19.toInt ≠ (-1) := b_neq rfl (by decide) c30
        refine lv_iload_n hx hb dX8_innermost_34 rfl (lv_at hl 1 rfl) ?_
        refine lv_goto (tgt := 39) hx hb dX8_innermost_35 (by decide) ?_
        have d1 : Int32.toInt 1 = 1 := by decide
        have d2 : Int32.toInt 2 = 2 := by decide
        have d0 : Int32.toInt 0 = 0 := by decide
        have m1 : Int32.toInt (-1) = -1 := by decide
        have dy9 : dyG (fun s => (V 23 s).toInt) (fun s => (V 21 s).toInt) (fun s => (V 22 s).toInt) (V 3 12).toInt.toNat p0.toInt = z19.toInt := by have h9 := t22; rw [d1, d0] at h9; unfold dyG; rw [if_pos (by omega)]; exact h9.symm
        have lo9 := t27
        rw [d2] at lo9
        have ir34 : z19.toInt = innC V (V 3 12).toInt.toNat p0.toInt := by
          rcases Decidable.em (0 ≤ lopC V 2 (z19.toInt) (V 3 12).toInt.toNat) with h9 | h9
          · exact innC_m ⟨by omega, by rw [dy9]; omega⟩
          · rw [← innC_d dy9 (by have h8 := lopG_r (p := fun s => (V 23 s).toInt) (k := fun s => (V 21 s).toInt) (d := fun s => (V 22 s).toInt) (kd := 2) (dy := z19.toInt) (V 3 12).toInt.toNat; have h7 : lopC V 2 (z19.toInt) (V 3 12).toInt.toNat = -1 ∨ 0 < lopC V 2 (z19.toInt) (V 3 12).toInt.toNat := h8.imp id (fun z => z.1); omega)]
            split <;> omega
        exact W.iret (v := z19) hx hb hr (fun t ht hW => ⟨⟨z19, (), rfl, ⟨(show 0 ≤ z19.toInt ∧ z19.toInt ≤ 39 from by omega), ir34⟩, by rw [ht]; exact hP, va_K.moved hW.alike hK, hD⟩, hS.F ht⟩) hS.2.2 dX8_innermost_39
    · skip
      have f35 : z24.toInt ≠ (-1) := b_neq rfl (by decide) c28
      refine lv_iload_n hx hb dX8_innermost_25 rfl (lv_at hl 0 rfl) ?_
      refine lv_goto (tgt := 39) hx hb dX8_innermost_26 (by decide) ?_
      have d1 : Int32.toInt 1 = 1 := by decide
      have d2 : Int32.toInt 2 = 2 := by decide
      have d0 : Int32.toInt 0 = 0 := by decide
      have m1 : Int32.toInt (-1) = -1 := by decide
      have dy9 : dyG (fun s => (V 23 s).toInt) (fun s => (V 21 s).toInt) (fun s => (V 22 s).toInt) (V 3 12).toInt.toNat p0.toInt = z19.toInt := by have h9 := t22; rw [d1, d0] at h9; unfold dyG; rw [if_pos (by omega)]; exact h9.symm
      have lo9 := t27
      rw [d2] at lo9
      have ir36 : z24.toInt = innC V (V 3 12).toInt.toNat p0.toInt := by
        rcases Decidable.em (0 ≤ lopC V 2 (z19.toInt) (V 3 12).toInt.toNat) with h9 | h9
        · exact innC_m ⟨by omega, by rw [dy9]; omega⟩
        · rw [← innC_d dy9 (by have h8 := lopG_r (p := fun s => (V 23 s).toInt) (k := fun s => (V 21 s).toInt) (d := fun s => (V 22 s).toInt) (kd := 2) (dy := z19.toInt) (V 3 12).toInt.toNat; have h7 : lopC V 2 (z19.toInt) (V 3 12).toInt.toNat = -1 ∨ 0 < lopC V 2 (z19.toInt) (V 3 12).toInt.toNat := h8.imp id (fun z => z.1); omega)]
          split <;> omega
      exact W.iret (v := z24) hx hb hr (fun t ht hW => ⟨⟨z24, (), rfl, ⟨(show 0 ≤ z24.toInt ∧ z24.toInt ≤ 39 from by (first | exact om_8305e47bdc88 rgz24.1 rgz24.2 f35 | omega)), ir36⟩, by rw [ht]; exact hP, va_K.moved hW.alike hK, hD⟩, hS.F ht⟩) hS.2.2 dX8_innermost_39
abbrev r_x_latestMade9 : Room := { frames := 0, cells := 0, slots := 0, locals := 0 }
abbrev q_x_latestMade9 (D : va_G) (ks : KS) (ad : Nat → Nat) (kk : Nat → ClassId) (V : Vf) (L : Lf) (Z : XZ) (p0 : Int32) (A : Nat → Prop) : Array Value → State → Outcome → State → Prop := va_Qi (fun (r : Int32) (_ : Unit) => ((-1) ≤ r.toInt ∧ r.toInt ≤ 299) ∧ (r.toInt < (V 3 13).toInt) ∧ (r.toInt = lmC V p0.toInt (V 3 13).toInt.toNat)) (fun _ t => gq D A (xw ad kk V L Z) (xty kk Z) t) A
set_option maxHeartbeats 4000000 in
set_option maxRecDepth 100000 in
theorem x_latestMade9 (l : Launch) (D : va_G) (ks : KS) (sz : Nat) (ad : Nat → Nat) (kk : Nat → ClassId) (V : Vf) (L : Lf) (Z : XZ) (p0 : Int32) (hMV : rgd bX V)  : Met l yX8_latestMade (Cond.code yX8_latestMade cX8_latestMade 5 (some .int) :: GW) r_x_latestMade9 (va_Pc [.ref (ad 3), .int p0] (gp D ks (xw ad kk V L Z) (xty kk Z) sz)) (q_x_latestMade9 D ks ad kk V L Z p0 (va_A (xw ad kk V L Z) sz)) 0 0 (va_A (xw ad kk V L Z) sz) := by
  refine g_met (q_x_latestMade9 D ks ad kk V L Z p0) (by decide) (Nat.le_of_ble_eq_true rfl) ?_
  intro p e s m below meth c A ls H locs hx hb hr hml hown hg hlocks hin hnw hgk hP hK hD hS hA hl
  replace hown : s.vm.findClass RX8 = some m.cls := hown
  replace hl : lv_has ls 5 [(0, .ref (ad 3)), (1, .int p0)] := hl
  replace hP : va_P D vwCl (xw ad kk V L Z) H := hP
  replace hD : va_D A (xw ad kk V L Z) := hD
  replace hK : va_K D vwCl (xty kk Z) s := hK
  refine lv_iconst (v := (-1)) hx hb dX8_latestMade_0 (by decide) ?_
  refine lv_istore_n (lv' := [(2, .int (-1)), (0, .ref (ad 3)), (1, .int p0)]) hx hb dX8_latestMade_1 rfl hl (by decide) rfl (fun ls hl => ?_)
  refine lv_iconst (v := 0) hx hb dX8_latestMade_2 (by decide) ?_
  refine lv_istore_n (lv' := [(3, .int 0), (2, .int (-1)), (0, .ref (ad 3)), (1, .int p0)]) hx hb dX8_latestMade_3 rfl hl (by decide) rfl (fun ls hl => ?_)
  have lp3 : ∀ (fulp3 : Nat) (y1 : Int32) (y2 : Int32) (H : Heap) (locs : List Loc) (ls : Array Slot), 0 ≤ y1.toInt ∧ y1.toInt ≤ 300 → (-1) ≤ y2.toInt ∧ y2.toInt ≤ 299 → y2.toInt < (V 3 13).toInt → y1.toInt ≤ (V 3 13).toInt → (y2.toInt = lmC V p0.toInt y1.toInt.toNat) → 300 - y1.toInt < (fulp3 : Int) → va_P D vwCl (xw ad kk V L Z) H → va_D A (xw ad kk V L Z) → va_S A s.heap H locs → lv_has ls 5 [(3, .int y1), (2, .int y2), (0, .ref (ad 3)), (1, .int p0)] → W p l e r_x_latestMade9 s m ([.ref (ad 3), .int p0] : List Value).toArray below meth c H locs 0 0 (MQ below (q_x_latestMade9 D ks ad kk V L Z p0 A) ([.ref (ad 3), .int p0] : List Value).toArray s 0 0 A) (F0 m 4 ls []) := by
    intro fulp3
    induction fulp3 with
    | zero =>
      intro y1 y2 H locs ls klp3_0 klp3_1 xlp3_0 xlp3_1 xlp3_2 hn  hP hD hS hl
      exfalso; (first | exact om_056f4b864e7b klp3_0.2 hn | omega)
    | succ fulp3 ihlp3 =>
      intro y1 y2 H locs ls klp3_0 klp3_1 xlp3_0 xlp3_1 xlp3_2 hn  hP hD hS hl
      have r4 : 0 ≤ ((V 3 13)).toInt ∧ ((V 3 13)).toInt ≤ 300 := hMV 3 13
      refine lv_iload_n hx hb dX8_latestMade_4 rfl (lv_at hl 0 rfl) ?_
      refine lv_aload_n hx hb dX8_latestMade_5 rfl (lv_at hl 2 rfl) ?_
      refine va_get (D := D) (ci := 8) (v := .int (V 3 13)) (fs := (xfStock ad V L Z)) (C := RX8) (T := TX8) (N := 16) hx hb hg inX8 hown hK hP 3 xgStock rfl 13 (by decide) (hg _ w391) (fun _ h9 => h9) rfl dX8_latestMade_6 ?_
      refine lv_icmp_ge (tgt := 72) hx hb dX8_latestMade_9 (by decide) (fun c5 => ?_) (fun c5 => ?_)
      · skip
        have f6 : ((V 3 13)).toInt ≤ y1.toInt := b_le rfl rfl c5
        refine lv_iload_n hx hb dX8_latestMade_72 rfl (lv_at hl 1 rfl) ?_
        exact W.iret (v := y2) hx hb hr (fun t ht hW => ⟨⟨y2, (), rfl, ⟨(show (-1) ≤ y2.toInt ∧ y2.toInt ≤ 299 from by (first | exact om_480f5491841b klp3_0.2 xlp3_0 xlp3_2 f6 | omega)), (show y2.toInt < (V 3 13).toInt from by (first | exact om_0e9116797efb xlp3_0 | omega)), (by have h9 := xlp3_2; rw [show (y1.toInt).toNat = (V 3 13).toInt.toNat from by omega] at h9; exact h9)⟩, by rw [ht]; exact hP, va_K.moved hW.alike hK, hD⟩, hS.F ht⟩) hS.2.2 dX8_latestMade_73
      · skip
        have f7 : y1.toInt < ((V 3 13)).toInt := b_nle rfl rfl c5
        refine lv_aload_n hx hb dX8_latestMade_12 rfl (lv_at hl 2 rfl) ?_
        refine va_get (D := D) (ci := 8) (v := .ref (ad 25)) (fs := (xfStock ad V L Z)) (C := RX8) (T := TX8) (N := 16) hx hb hg inX8 hown hK hP 3 xgStock rfl 7 (by decide) (hg _ w384) (fun _ h9 => h9) rfl dX8_latestMade_13 ?_
        refine lv_iload_n hx hb dX8_latestMade_16 rfl (lv_at hl 0 rfl) ?_
        refine va_iald (D := D) (i := y1) hx hb hK hP 25 18 rfl rfl (i_in (a := y1.toInt) rfl (by (first | exact om_cd73be67f278 klp3_0.1 r4.2 f7 | omega))) dX8_latestMade_17 ?_
        refine lv_iconst (v := 1) hx hb dX8_latestMade_18 (by decide) ?_
        refine lv_icmp_ne (tgt := 36) hx hb dX8_latestMade_19 (by decide) (fun c8 => ?_) (fun c8 => ?_)
        · skip
          have f9 : ((V 28 (Int32.toNatClampNeg y1))).toInt ≠ 1 := b_neq rfl (by decide) c8
          refine lv_iconst (v := 0) hx hb dX8_latestMade_36 (by decide) ?_
          refine lv_istore (lv' := [(4, .int 0), (3, .int y1), (2, .int y2), (0, .ref (ad 3)), (1, .int p0)]) hx hb dX8_latestMade_37 hl (by decide) rfl (fun ls hl => ?_)
          refine lv_iload hx hb dX8_latestMade_39 (lv_at hl 0 rfl) ?_
          refine lv_if_eq (tgt := 66) hx hb dX8_latestMade_41 (by decide) (fun _ => ?_) (fun q => absurd (by decide) q)
          obtain ⟨z10, ez10⟩ : ∃ y : Int32, y = y1 + 1 := ⟨_, rfl⟩
          have hz10 : z10.toInt = y1.toInt + 1 := i_add ez10 rfl (by decide) (by (first | exact om_c09ff01990d3 klp3_0.1 r4.2 f7 | omega))
          refine lv_iinc (v := z10) (lv' := [(3, .int z10), (4, .int 0), (2, .int y2), (0, .ref (ad 3)), (1, .int p0)]) hx hb dX8_latestMade_66 hl (k := 1) rfl (by rw [ez10]; rfl) (by decide) rfl (fun ls hl => ?_)
          refine lv_goto (tgt := 4) hx hb dX8_latestMade_69 (by decide) ?_
          have r11 : Int32.toInt 0 = 0 := by decide
          have ky9 := i_clamp (x := y1) rfl (by (first | exact om_eafa9039069c klp3_0.1 | omega))
          have ez9 : (z10.toInt).toNat = (Int32.toNatClampNeg y1) + 1 := by omega
          have hx9 : y2.toInt = lmC V p0.toInt (Int32.toNatClampNeg y1) := xlp3_2
          have la12 : y2.toInt = lmC V p0.toInt (z10.toInt).toNat := by rw [ez9]; exact lamG_n hx9 (fun h9 => by have h1 : (V 28 (Int32.toNatClampNeg y1)).toInt = 1 := h9.1; have h2 : (V 27 (Int32.toNatClampNeg y1)).toInt = p0.toInt := h9.2.1; have h3 : y2.toInt < 0 ∨ (V 29 (Int32.toNatClampNeg y2)).toInt < (V 29 (Int32.toNatClampNeg y1)).toInt := h9.2.2; omega)
          exact ihlp3 z10 y2 H locs ls (by (first | exact om_0d23cfa2d5c1 klp3_0.1 r4.2 f7 hz10 | omega)) (by (first | exact om_deeadfebb293 klp3_1.2 la12 | omega)) (show y2.toInt < (V 3 13).toInt from by (first | exact om_0e9116797efb xlp3_0 | omega)) (show z10.toInt ≤ (V 3 13).toInt from by (first | exact om_7fe9249fc074 f7 hz10 | omega)) la12 (by (first | exact om_323338d8a62d hn hz10 | omega)) hP hD hS (lv_sub hl [0, 2, 3, 4] rfl)
        · skip
          have f13 : ((V 28 (Int32.toNatClampNeg y1))).toInt = 1 := b_eq rfl (by decide) c8
          refine lv_aload_n hx hb dX8_latestMade_22 rfl (lv_at hl 2 rfl) ?_
          refine va_get (D := D) (ci := 8) (v := .ref (ad 24)) (fs := (xfStock ad V L Z)) (C := RX8) (T := TX8) (N := 16) hx hb hg inX8 hown hK hP 3 xgStock rfl 6 (by decide) (hg _ w381) (fun _ h9 => h9) rfl dX8_latestMade_23 ?_
          refine lv_iload_n hx hb dX8_latestMade_26 rfl (lv_at hl 0 rfl) ?_
          refine va_iald (D := D) (i := y1) hx hb hK hP 24 17 rfl rfl (i_in (a := y1.toInt) rfl (by (first | exact om_cd73be67f278 klp3_0.1 r4.2 f7 | omega))) dX8_latestMade_27 ?_
          have r14 : 0 ≤ ((V 27 (Int32.toNatClampNeg y1))).toInt ∧ ((V 27 (Int32.toNatClampNeg y1))).toInt ≤ 39 := hMV 27 (Int32.toNatClampNeg y1)
          refine lv_iload_n hx hb dX8_latestMade_28 rfl (lv_at hl 3 rfl) ?_
          refine lv_icmp_ne (tgt := 36) hx hb dX8_latestMade_29 (by decide) (fun c15 => ?_) (fun c15 => ?_)
          · skip
            have f16 : ((V 27 (Int32.toNatClampNeg y1))).toInt ≠ p0.toInt := b_neq rfl rfl c15
            refine lv_iconst (v := 0) hx hb dX8_latestMade_36 (by decide) ?_
            refine lv_istore (lv' := [(4, .int 0), (3, .int y1), (2, .int y2), (0, .ref (ad 3)), (1, .int p0)]) hx hb dX8_latestMade_37 hl (by decide) rfl (fun ls hl => ?_)
            refine lv_iload hx hb dX8_latestMade_39 (lv_at hl 0 rfl) ?_
            refine lv_if_eq (tgt := 66) hx hb dX8_latestMade_41 (by decide) (fun _ => ?_) (fun q => absurd (by decide) q)
            obtain ⟨z17, ez17⟩ : ∃ y : Int32, y = y1 + 1 := ⟨_, rfl⟩
            have hz17 : z17.toInt = y1.toInt + 1 := i_add ez17 rfl (by decide) (by (first | exact om_c09ff01990d3 klp3_0.1 r4.2 f7 | omega))
            refine lv_iinc (v := z17) (lv' := [(3, .int z17), (4, .int 0), (2, .int y2), (0, .ref (ad 3)), (1, .int p0)]) hx hb dX8_latestMade_66 hl (k := 1) rfl (by rw [ez17]; rfl) (by decide) rfl (fun ls hl => ?_)
            refine lv_goto (tgt := 4) hx hb dX8_latestMade_69 (by decide) ?_
            have r18 : Int32.toInt 0 = 0 := by decide
            have ky9 := i_clamp (x := y1) rfl (by (first | exact om_eafa9039069c klp3_0.1 | omega))
            have ez9 : (z17.toInt).toNat = (Int32.toNatClampNeg y1) + 1 := by omega
            have hx9 : y2.toInt = lmC V p0.toInt (Int32.toNatClampNeg y1) := xlp3_2
            have la19 : y2.toInt = lmC V p0.toInt (z17.toInt).toNat := by rw [ez9]; exact lamG_n hx9 (fun h9 => by have h1 : (V 28 (Int32.toNatClampNeg y1)).toInt = 1 := h9.1; have h2 : (V 27 (Int32.toNatClampNeg y1)).toInt = p0.toInt := h9.2.1; have h3 : y2.toInt < 0 ∨ (V 29 (Int32.toNatClampNeg y2)).toInt < (V 29 (Int32.toNatClampNeg y1)).toInt := h9.2.2; omega)
            exact ihlp3 z17 y2 H locs ls (by (first | exact om_0d23cfa2d5c1 klp3_0.1 r4.2 f7 hz17 | omega)) (by (first | exact om_deeadfebb293 klp3_1.2 la19 | omega)) (show y2.toInt < (V 3 13).toInt from by (first | exact om_0e9116797efb xlp3_0 | omega)) (show z17.toInt ≤ (V 3 13).toInt from by (first | exact om_7fe9249fc074 f7 hz17 | omega)) la19 (by (first | exact om_323338d8a62d hn hz17 | omega)) hP hD hS (lv_sub hl [0, 2, 3, 4] rfl)
          · skip
            have f20 : ((V 27 (Int32.toNatClampNeg y1))).toInt = p0.toInt := b_eq rfl rfl c15
            refine lv_iconst (v := 1) hx hb dX8_latestMade_32 (by decide) ?_
            refine lv_goto (tgt := 37) hx hb dX8_latestMade_33 (by decide) ?_
            refine lv_istore (lv' := [(4, .int 1), (3, .int y1), (2, .int y2), (0, .ref (ad 3)), (1, .int p0)]) hx hb dX8_latestMade_37 hl (by decide) rfl (fun ls hl => ?_)
            refine lv_iload hx hb dX8_latestMade_39 (lv_at hl 0 rfl) ?_
            refine lv_if_eq (tgt := 66) hx hb dX8_latestMade_41 (by decide) (fun q => absurd q (by decide)) (fun _ => ?_)
            refine lv_iload_n hx hb dX8_latestMade_44 rfl (lv_at hl 2 rfl) ?_
            refine lv_iconst (v := (-1)) hx hb dX8_latestMade_45 (by decide) ?_
            refine lv_icmp_eq (tgt := 64) hx hb dX8_latestMade_46 (by decide) (fun c21 => ?_) (fun c21 => ?_)
            · skip
              have f22 : y2.toInt = (-1) := b_eq rfl (by decide) c21
              refine lv_iload_n hx hb dX8_latestMade_64 rfl (lv_at hl 1 rfl) ?_
              refine lv_istore_n (lv' := [(2, .int y1), (4, .int 1), (3, .int y1), (0, .ref (ad 3)), (1, .int p0)]) hx hb dX8_latestMade_65 rfl hl (by decide) rfl (fun ls hl => ?_)
              obtain ⟨z23, ez23⟩ : ∃ y : Int32, y = y1 + 1 := ⟨_, rfl⟩
              have hz23 : z23.toInt = y1.toInt + 1 := i_add ez23 rfl (by decide) (by omega)
              refine lv_iinc (v := z23) (lv' := [(3, .int z23), (2, .int y1), (4, .int 1), (0, .ref (ad 3)), (1, .int p0)]) hx hb dX8_latestMade_66 hl (k := 2) rfl (by rw [ez23]; rfl) (by decide) rfl (fun ls hl => ?_)
              refine lv_goto (tgt := 4) hx hb dX8_latestMade_69 (by decide) ?_
              have r24 : Int32.toInt 1 = 1 := by decide
              have ky9 := i_clamp (x := y1) rfl (by omega)
              have ez9 : (z23.toInt).toNat = (Int32.toNatClampNeg y1) + 1 := by omega
              have hx9 : y2.toInt = lmC V p0.toInt (Int32.toNatClampNeg y1) := xlp3_2
              have la25 : y1.toInt = lmC V p0.toInt (z23.toInt).toNat := by rw [ez9, show y1.toInt = (((Int32.toNatClampNeg y1) : Nat) : Int) from by omega]; exact lamG_y hx9 (show (V 28 (Int32.toNatClampNeg y1)).toInt = 1 from by omega) (show (V 27 (Int32.toNatClampNeg y1)).toInt = p0.toInt from by omega) (show y2.toInt < 0 ∨ (V 29 y2.toInt.toNat).toInt < (V 29 (Int32.toNatClampNeg y1)).toInt from Or.inl (by omega))
              exact ihlp3 z23 y1 H locs ls (by omega) (by omega) (show y1.toInt < (V 3 13).toInt from by omega) (show z23.toInt ≤ (V 3 13).toInt from by omega) la25 (by omega) hP hD hS (lv_sub hl [0, 1, 3, 4] rfl)
            · skip
              have f26 : y2.toInt ≠ (-1) := b_neq rfl (by decide) c21
              refine lv_aload_n hx hb dX8_latestMade_49 rfl (lv_at hl 3 rfl) ?_
              refine va_get (D := D) (ci := 8) (v := .ref (ad 26)) (fs := (xfStock ad V L Z)) (C := RX8) (T := TX8) (N := 16) hx hb hg inX8 hown hK hP 3 xgStock rfl 8 (by decide) (hg _ w386) (fun _ h9 => h9) rfl dX8_latestMade_50 ?_
              refine lv_iload_n hx hb dX8_latestMade_53 rfl (lv_at hl 1 rfl) ?_
              refine va_iald (D := D) (i := y1) hx hb hK hP 26 19 rfl rfl (i_in (a := y1.toInt) rfl (by (first | exact om_cd73be67f278 klp3_0.1 r4.2 f7 | omega))) dX8_latestMade_54 ?_
              refine lv_aload_n hx hb dX8_latestMade_55 rfl (lv_at hl 3 rfl) ?_
              refine va_get (D := D) (ci := 8) (v := .ref (ad 26)) (fs := (xfStock ad V L Z)) (C := RX8) (T := TX8) (N := 16) hx hb hg inX8 hown hK hP 3 xgStock rfl 8 (by decide) (hg _ w386) (fun _ h9 => h9) rfl dX8_latestMade_56 ?_
              refine lv_iload_n hx hb dX8_latestMade_59 rfl (lv_at hl 2 rfl) ?_
              refine va_iald (D := D) (i := y2) hx hb hK hP 26 19 rfl rfl (i_in (a := y2.toInt) rfl (by (first | exact om_3e088b37c336 klp3_1.1 klp3_1.2 f26 | omega))) dX8_latestMade_60 ?_
              refine lv_icmp_le (tgt := 66) hx hb dX8_latestMade_61 (by decide) (fun c27 => ?_) (fun c27 => ?_)
              · skip
                have f28 : ((V 29 (Int32.toNatClampNeg y1))).toInt ≤ ((V 29 (Int32.toNatClampNeg y2))).toInt := b_le rfl rfl c27
                obtain ⟨z29, ez29⟩ : ∃ y : Int32, y = y1 + 1 := ⟨_, rfl⟩
                have hz29 : z29.toInt = y1.toInt + 1 := i_add ez29 rfl (by decide) (by (first | exact om_c09ff01990d3 klp3_0.1 r4.2 f7 | omega))
                refine lv_iinc (v := z29) (lv' := [(3, .int z29), (4, .int 1), (2, .int y2), (0, .ref (ad 3)), (1, .int p0)]) hx hb dX8_latestMade_66 hl (k := 1) rfl (by rw [ez29]; rfl) (by decide) rfl (fun ls hl => ?_)
                refine lv_goto (tgt := 4) hx hb dX8_latestMade_69 (by decide) ?_
                have r30 : Int32.toInt 1 = 1 := by decide
                have ky9 := i_clamp (x := y1) rfl (by (first | exact om_eafa9039069c klp3_0.1 | omega))
                have ez9 : (z29.toInt).toNat = (Int32.toNatClampNeg y1) + 1 := by omega
                have hx9 : y2.toInt = lmC V p0.toInt (Int32.toNatClampNeg y1) := xlp3_2
                have la31 : y2.toInt = lmC V p0.toInt (z29.toInt).toNat := by rw [ez9]; exact lamG_n hx9 (fun h9 => by have h1 : (V 28 (Int32.toNatClampNeg y1)).toInt = 1 := h9.1; have h2 : (V 27 (Int32.toNatClampNeg y1)).toInt = p0.toInt := h9.2.1; have h3 : y2.toInt < 0 ∨ (V 29 (Int32.toNatClampNeg y2)).toInt < (V 29 (Int32.toNatClampNeg y1)).toInt := h9.2.2; omega)
                exact ihlp3 z29 y2 H locs ls (by (first | exact om_0d23cfa2d5c1 klp3_0.1 r4.2 f7 hz29 | omega)) (by (first | exact om_0a9f674b9c43 klp3_1.1 klp3_1.2 f26 | omega)) (show y2.toInt < (V 3 13).toInt from by (first | exact om_0e9116797efb xlp3_0 | omega)) (show z29.toInt ≤ (V 3 13).toInt from by (first | exact om_7fe9249fc074 f7 hz29 | omega)) la31 (by (first | exact om_323338d8a62d hn hz29 | omega)) hP hD hS (lv_sub hl [0, 2, 3, 4] rfl)
              · skip
                have f32 : ((V 29 (Int32.toNatClampNeg y2))).toInt < ((V 29 (Int32.toNatClampNeg y1))).toInt := b_nle rfl rfl c27
                refine lv_iload_n hx hb dX8_latestMade_64 rfl (lv_at hl 1 rfl) ?_
                refine lv_istore_n (lv' := [(2, .int y1), (4, .int 1), (3, .int y1), (0, .ref (ad 3)), (1, .int p0)]) hx hb dX8_latestMade_65 rfl hl (by decide) rfl (fun ls hl => ?_)
                obtain ⟨z33, ez33⟩ : ∃ y : Int32, y = y1 + 1 := ⟨_, rfl⟩
                have hz33 : z33.toInt = y1.toInt + 1 := i_add ez33 rfl (by decide) (by (first | exact om_c09ff01990d3 klp3_0.1 r4.2 f7 | omega))
                refine lv_iinc (v := z33) (lv' := [(3, .int z33), (2, .int y1), (4, .int 1), (0, .ref (ad 3)), (1, .int p0)]) hx hb dX8_latestMade_66 hl (k := 2) rfl (by rw [ez33]; rfl) (by decide) rfl (fun ls hl => ?_)
                refine lv_goto (tgt := 4) hx hb dX8_latestMade_69 (by decide) ?_
                have r34 : Int32.toInt 1 = 1 := by decide
                have ky9 := i_clamp (x := y1) rfl (by (first | exact om_eafa9039069c klp3_0.1 | omega))
                have ez9 : (z33.toInt).toNat = (Int32.toNatClampNeg y1) + 1 := by omega
                have hx9 : y2.toInt = lmC V p0.toInt (Int32.toNatClampNeg y1) := xlp3_2
                have la35 : y1.toInt = lmC V p0.toInt (z33.toInt).toNat := by rw [ez9, show y1.toInt = (((Int32.toNatClampNeg y1) : Nat) : Int) from by omega]; exact lamG_y hx9 (show (V 28 (Int32.toNatClampNeg y1)).toInt = 1 from by (first | exact om_710535a98d88 f13 | omega)) (show (V 27 (Int32.toNatClampNeg y1)).toInt = p0.toInt from by (first | exact om_570b691c1130 f20 | omega)) (show y2.toInt < 0 ∨ (V 29 y2.toInt.toNat).toInt < (V 29 (Int32.toNatClampNeg y1)).toInt from Or.inr (show (V 29 (Int32.toNatClampNeg y2)).toInt < (V 29 (Int32.toNatClampNeg y1)).toInt from by (first | exact om_0e9116797efb f32 | omega)))
                exact ihlp3 z33 y1 H locs ls (by (first | exact om_0d23cfa2d5c1 klp3_0.1 r4.2 f7 hz33 | omega)) (by (first | exact om_38757deacf4c klp3_0.1 r4.2 f7 | omega)) (show y1.toInt < (V 3 13).toInt from by (first | exact om_0e9116797efb f7 | omega)) (show z33.toInt ≤ (V 3 13).toInt from by (first | exact om_7fe9249fc074 f7 hz33 | omega)) la35 (by (first | exact om_323338d8a62d hn hz33 | omega)) hP hD hS (lv_sub hl [0, 1, 3, 4] rfl)
  have r36 : Int32.toInt 0 = 0 := by decide
  have r37 : Int32.toInt (-1) = (-1) := by decide
  have r38 : 0 ≤ ((V 3 13)).toInt ∧ ((V 3 13)).toInt ≤ 300 := hMV 3 13
  exact lp3 ((300 - (Int32.toInt 0) + 1 : Int).toNat) 0 (-1) H locs ls (by decide) (by decide) (show (Int32.toInt (-1)) < (V 3 13).toInt from by (first | exact om_3e9fea077503 r37 r38.1 | omega)) (show (Int32.toInt 0) ≤ (V 3 13).toInt from by (first | exact om_a51dc5ad8918 r36 r38.1 | omega)) (show Int32.toInt (-1) = lmC V p0.toInt (Int32.toInt 0).toNat from by rw [show (Int32.toInt 0).toNat = 0 from by decide]; exact (by decide : Int32.toInt (-1) = -1)) (by (first | exact om_38ac640f4f8c | omega)) hP hD hS (lv_sub hl [0, 1, 2, 3] rfl)
abbrev r_x_shut9 : Room := { frames := 0, cells := 0, slots := 0, locals := 0 }
abbrev q_x_shut9 (D : va_G) (ks : KS) (ad : Nat → Nat) (kk : Nat → ClassId) (V : Vf) (L : Lf) (Z : XZ) (p0 : Int32) (A : Nat → Prop) : Array Value → State → Outcome → State → Prop := va_Qv (fun (u : Vf × Lf) => rgd bX u.1 ∧ agr [] [23, 24] V u.1 ∧ u.2 = L ∧ (((True) ∧ u.1 = (up2 (up2 V 23 (Int32.toNatClampNeg p0) 0) 24 (Int32.toNatClampNeg p0) 0)))) (fun u t => gq D A (xw ad kk u.1 u.2 Z) (xty kk Z) t) A
set_option maxHeartbeats 4000000 in
set_option maxRecDepth 100000 in
theorem x_shut9 (l : Launch) (D : va_G) (ks : KS) (sz : Nat) (ad : Nat → Nat) (kk : Nat → ClassId) (V : Vf) (L : Lf) (Z : XZ) (p0 : Int32) (hMV : rgd bX V) (rg_p0 : 0 ≤ p0.toInt ∧ p0.toInt ≤ 39)  : Met l yX8_shut (Cond.code yX8_shut cX8_shut 2 none :: GW) r_x_shut9 (va_Pc [.ref (ad 3), .int p0] (gp D ks (xw ad kk V L Z) (xty kk Z) sz)) (q_x_shut9 D ks ad kk V L Z p0 (va_A (xw ad kk V L Z) sz)) 0 0 (va_A (xw ad kk V L Z) sz) := by
  refine g_met (q_x_shut9 D ks ad kk V L Z p0) (by decide) (Nat.le_of_ble_eq_true rfl) ?_
  intro p e s m below meth c A ls H locs hx hb hr hml hown hg hlocks hin hnw hgk hP hK hD hS hA hl
  replace hown : s.vm.findClass RX8 = some m.cls := hown
  replace hl : lv_has ls 2 [(0, .ref (ad 3)), (1, .int p0)] := hl
  replace hP : va_P D vwCl (xw ad kk V L Z) H := hP
  replace hD : va_D A (xw ad kk V L Z) := hD
  replace hK : va_K D vwCl (xty kk Z) s := hK
  have agV : agr [] [23, 24] V V := agr.rf
  refine lv_aload_n hx hb dX8_shut_0 rfl (lv_at hl 0 rfl) ?_
  refine va_get (D := D) (ci := 8) (v := .ref (ad 20)) (fs := (xfStock ad V L Z)) (C := RX8) (T := TX8) (N := 16) hx hb hg inX8 hown hK hP 3 xgStock rfl 2 (by decide) (hg _ w376) (fun _ h9 => h9) rfl dX8_shut_1 ?_
  refine lv_iload_n hx hb dX8_shut_4 rfl (lv_at hl 1 rfl) ?_
  refine lv_iconst (v := 0) hx hb dX8_shut_5 (by decide) ?_
  refine va_zast (D := D) (i := p0) (x := 0) hx hb hK hP hD hS 20 13 rfl rfl (i_in (a := p0.toInt) rfl (by (first | exact om_fc4b7ceebace rg_p0.1 rg_p0.2 | omega))) dX8_shut_6 (fun H locs hP hD hS => ?_)
  obtain ⟨V1, hV1⟩ : ∃ z, z = up2 V 23 (Int32.toNatClampNeg p0) (vp_nar .boolean 0) := ⟨_, rfl⟩
  have ew2 : (xw ad kk V L Z).set 20 ((ad 20), .inl ((kk 20), 40, .inl (upd (V 23) (Int32.toNatClampNeg p0) (vp_nar .boolean 0)))) = xw ad kk V1 L Z := by rw [hV1]; exact xw_ss (by decide) rfl (xb_si (by decide))
  have hP : va_P D vwCl (xw ad kk V1 L Z) H := by rw [← ew2]; exact hP
  have hD : va_D A (xw ad kk V1 L Z) := by rw [← ew2]; exact hD
  have hMV1 : rgd bX V1 := hMV.put hV1 (nar_b _)
  have agV1 : agr [] [23, 24] V V1 := agV.up hV1 rfl
  refine lv_aload_n hx hb dX8_shut_7 rfl (lv_at hl 0 rfl) ?_
  refine va_get (D := D) (ci := 8) (v := .ref (ad 21)) (fs := (xfStock ad V1 L Z)) (C := RX8) (T := TX8) (N := 16) hx hb hg inX8 hown hK hP 3 xgStock rfl 3 (by decide) (hg _ w377) (fun _ h9 => h9) rfl dX8_shut_8 ?_
  refine lv_iload_n hx hb dX8_shut_11 rfl (lv_at hl 1 rfl) ?_
  refine lv_iconst (v := 0) hx hb dX8_shut_12 (by decide) ?_
  refine va_iast (D := D) (i := p0) (x := 0) hx hb hK hP hD hS 21 14 rfl rfl (i_in (a := p0.toInt) rfl (by (first | exact om_fc4b7ceebace rg_p0.1 rg_p0.2 | omega))) dX8_shut_13 (fun H locs hP hD hS => ?_)
  obtain ⟨V3, hV3⟩ : ∃ z, z = up2 V1 24 (Int32.toNatClampNeg p0) 0 := ⟨_, rfl⟩
  have ew4 : (xw ad kk V1 L Z).set 21 ((ad 21), .inl ((kk 21), 40, .inl (upd (V1 24) (Int32.toNatClampNeg p0) 0))) = xw ad kk V3 L Z := by rw [hV3]; exact xw_ss (by decide) rfl (xb_si (by decide))
  have hP : va_P D vwCl (xw ad kk V3 L Z) H := by rw [← ew4]; exact hP
  have hD : va_D A (xw ad kk V3 L Z) := by rw [← ew4]; exact hD
  have hMV3 : rgd bX V3 := hMV1.put hV3 (i_full _)
  have agV3 : agr [] [23, 24] V V3 := agV1.up hV3 rfl
  exact W.vret hx hb hr (fun t ht hW => ⟨⟨(V3, L), rfl, ⟨hMV3, agV3, rfl, (⟨trivial, by rw [hV3, hV1] <;> rfl⟩)⟩, by rw [ht]; exact hP, va_K.moved hW.alike hK, hD⟩, hS.F ht⟩) hS.2.2 dX8_shut_14
abbrev r_x_reopenHouse9 : Room := { frames := 0, cells := 0, slots := 0, locals := 0 }
abbrev q_x_reopenHouse9 (D : va_G) (ks : KS) (ad : Nat → Nat) (kk : Nat → ClassId) (V : Vf) (L : Lf) (Z : XZ) (A : Nat → Prop) : Array Value → State → Outcome → State → Prop := va_Qv (fun (u : Vf × Lf) => rgd bX u.1 ∧ agr [] [23] V u.1 ∧ u.2 = L ∧ (((True) ∧ u.1 = (up2 V 23 (Int32.toNatClampNeg 0) 1)))) (fun u t => gq D A (xw ad kk u.1 u.2 Z) (xty kk Z) t) A
set_option maxHeartbeats 4000000 in
set_option maxRecDepth 100000 in
theorem x_reopenHouse9 (l : Launch) (D : va_G) (ks : KS) (sz : Nat) (ad : Nat → Nat) (kk : Nat → ClassId) (V : Vf) (L : Lf) (Z : XZ)  (hMV : rgd bX V)  : Met l yX8_reopenHouse (Cond.code yX8_reopenHouse cX8_reopenHouse 1 none :: GW) r_x_reopenHouse9 (va_Pc [.ref (ad 3)] (gp D ks (xw ad kk V L Z) (xty kk Z) sz)) (q_x_reopenHouse9 D ks ad kk V L Z  (va_A (xw ad kk V L Z) sz)) 0 0 (va_A (xw ad kk V L Z) sz) := by
  refine g_met (q_x_reopenHouse9 D ks ad kk V L Z) (by decide) (Nat.le_of_ble_eq_true rfl) ?_
  intro p e s m below meth c A ls H locs hx hb hr hml hown hg hlocks hin hnw hgk hP hK hD hS hA hl
  replace hown : s.vm.findClass RX8 = some m.cls := hown
  replace hl : lv_has ls 1 [(0, .ref (ad 3))] := hl
  replace hP : va_P D vwCl (xw ad kk V L Z) H := hP
  replace hD : va_D A (xw ad kk V L Z) := hD
  replace hK : va_K D vwCl (xty kk Z) s := hK
  have agV : agr [] [23] V V := agr.rf
  refine lv_aload_n hx hb dX8_reopenHouse_0 rfl (lv_at hl 0 rfl) ?_
  refine va_get (D := D) (ci := 8) (v := .ref (ad 20)) (fs := (xfStock ad V L Z)) (C := RX8) (T := TX8) (N := 16) hx hb hg inX8 hown hK hP 3 xgStock rfl 2 (by decide) (hg _ w376) (fun _ h9 => h9) rfl dX8_reopenHouse_1 ?_
  refine lv_iconst (v := 0) hx hb dX8_reopenHouse_4 (by decide) ?_
  refine lv_iconst (v := 1) hx hb dX8_reopenHouse_5 (by decide) ?_
  refine va_zast (D := D) (i := 0) (x := 1) hx hb hK hP hD hS 20 13 rfl rfl (i_in (a := 0) (by decide) (by decide)) dX8_reopenHouse_6 (fun H locs hP hD hS => ?_)
  obtain ⟨V1, hV1⟩ : ∃ z, z = up2 V 23 (Int32.toNatClampNeg 0) (vp_nar .boolean 1) := ⟨_, rfl⟩
  have ew2 : (xw ad kk V L Z).set 20 ((ad 20), .inl ((kk 20), 40, .inl (upd (V 23) (Int32.toNatClampNeg 0) (vp_nar .boolean 1)))) = xw ad kk V1 L Z := by rw [hV1]; exact xw_ss (by decide) rfl (xb_si (by decide))
  have hP : va_P D vwCl (xw ad kk V1 L Z) H := by rw [← ew2]; exact hP
  have hD : va_D A (xw ad kk V1 L Z) := by rw [← ew2]; exact hD
  have hMV1 : rgd bX V1 := hMV.put hV1 (nar_b _)
  have agV1 : agr [] [23] V V1 := agV.up hV1 rfl
  exact W.vret hx hb hr (fun t ht hW => ⟨⟨(V1, L), rfl, ⟨hMV1, agV1, rfl, (⟨trivial, by rw [hV1] <;> rfl⟩)⟩, by rw [ht]; exact hP, va_K.moved hW.alike hK, hD⟩, hS.F ht⟩) hS.2.2 dX8_reopenHouse_7
abbrev r_x_isSpent9 : Room := { frames := 0, cells := 0, slots := 0, locals := 0 }
abbrev q_x_isSpent9 (D : va_G) (ks : KS) (ad : Nat → Nat) (kk : Nat → ClassId) (V : Vf) (L : Lf) (Z : XZ) (A : Nat → Prop) : Array Value → State → Outcome → State → Prop := va_Qi (fun (r : Int32) (_ : Unit) => (0 ≤ r.toInt ∧ r.toInt ≤ 1) ∧ ((r.toInt = 1 ∧ (V 5 9).toInt = 3) ∨ (r.toInt = 0 ∧ (V 5 9).toInt ≠ 3))) (fun _ t => gq D A (xw ad kk V L Z) (xty kk Z) t) A
set_option maxHeartbeats 4000000 in
set_option maxRecDepth 100000 in
theorem x_isSpent9 (l : Launch) (D : va_G) (ks : KS) (sz : Nat) (ad : Nat → Nat) (kk : Nat → ClassId) (V : Vf) (L : Lf) (Z : XZ)  (hMV : rgd bX V)  : Met l yX5_isSpent (Cond.code yX5_isSpent cX5_isSpent 1 (some .boolean) :: GW) r_x_isSpent9 (va_Pc [.ref (ad 5)] (gp D ks (xw ad kk V L Z) (xty kk Z) sz)) (q_x_isSpent9 D ks ad kk V L Z  (va_A (xw ad kk V L Z) sz)) 0 0 (va_A (xw ad kk V L Z) sz) := by
  refine g_met (q_x_isSpent9 D ks ad kk V L Z) (by decide) (Nat.le_of_ble_eq_true rfl) ?_
  intro p e s m below meth c A ls H locs hx hb hr hml hown hg hlocks hin hnw hgk hP hK hD hS hA hl
  replace hown : s.vm.findClass RX5 = some m.cls := hown
  replace hl : lv_has ls 1 [(0, .ref (ad 5))] := hl
  replace hP : va_P D vwCl (xw ad kk V L Z) H := hP
  replace hD : va_D A (xw ad kk V L Z) := hD
  replace hK : va_K D vwCl (xty kk Z) s := hK
  refine lv_aload_n hx hb dX5_isSpent_0 rfl (lv_at hl 0 rfl) ?_
  refine va_get (D := D) (ci := 5) (v := .int (V 5 9)) (fs := (xfMachine ad V L Z)) (C := RX5) (T := TX5) (N := 15) hx hb hg inX5 hown hK hP 5 xgMachine rfl 9 (by decide) (hg _ w676) (fun _ h9 => h9) rfl dX5_isSpent_1 ?_
  have r1 : 0 ≤ ((V 5 9)).toInt ∧ ((V 5 9)).toInt ≤ 3 := hMV 5 9
  refine lv_iconst (v := 3) hx hb dX5_isSpent_4 (by decide) ?_
  refine lv_icmp_ne (tgt := 12) hx hb dX5_isSpent_5 (by decide) (fun c2 => ?_) (fun c2 => ?_)
  · skip
    have f3 : ((V 5 9)).toInt ≠ 3 := b_neq rfl (by decide) c2
    refine lv_iconst (v := 0) hx hb dX5_isSpent_12 (by decide) ?_
    exact W.zret (v := 0) hx hb hr rfl (fun t ht hW => ⟨⟨0, (), rfl, ⟨(by decide), (show (0 = 1 ∧ (V 5 9).toInt = 3) ∨ (0 = 0 ∧ (V 5 9).toInt ≠ 3) from by omega)⟩, by rw [ht]; exact hP, va_K.moved hW.alike hK, hD⟩, hS.F ht⟩) hS.2.2 dX5_isSpent_13
  · skip
    have f4 : ((V 5 9)).toInt = 3 := b_eq rfl (by decide) c2
    refine lv_iconst (v := 1) hx hb dX5_isSpent_8 (by decide) ?_
    refine lv_goto (tgt := 13) hx hb dX5_isSpent_9 (by decide) ?_
    exact W.zret (v := 1) hx hb hr rfl (fun t ht hW => ⟨⟨1, (), rfl, ⟨(by decide), (show (1 = 1 ∧ (V 5 9).toInt = 3) ∨ (1 = 0 ∧ (V 5 9).toInt ≠ 3) from by omega)⟩, by rw [ht]; exact hP, va_K.moved hW.alike hK, hD⟩, hS.F ht⟩) hS.2.2 dX5_isSpent_13
abbrev r_x_h_close9 (Z : XZ) : Room := { frames := 8, cells := zcc Z, slots := zss Z, locals := 181 }
abbrev q_x_h_close9 (D : va_G) (ks : KS) (ad : Nat → Nat) (kk : Nat → ClassId) (V : Vf) (L : Lf) (Z : XZ) (p0 : Int32) (b : Nat) (gB : Bk) (gm : Mm) (gy : CS) (gj : Nat) (A : Nat → Prop) : Array Value → State → Outcome → State → Prop := qZi D (fun (r : Int32) (u : Vf × Lf × XZ) => rgd bX u.1 ∧ agr [(0, 9), (3, 13), (3, 14), (3, 15), (4, 5), (4, 6), (5, 6), (5, 7), (5, 8), (5, 9), (5, 10), (5, 11), (5, 12), (5, 13), (5, 14), (44, 0)] [23, 24, 25, 26, 27, 28, 29, 30, 31, 32, 33, 34, 35, 36, 37, 39, 40, 67, 68, 69, 70, 71, 72, 73, 74, 75, 76, 77, 78, 79, 80, 81, 82, 83, 84, 85] V u.1 ∧ u.2.1 = L ∧ ZL Z u.2.2 ∧ (HI u.1 u.2.2 b) ∧ ((u.1 44 0).toInt ≤ (V 44 0).toInt + 340) ∧ ((0 ≤ p0.toInt ∧ p0.toInt < (V 3 12).toInt ∧ (V 23 (Int32.toNatClampNeg p0)).toInt = 1) → (∃ ow, RWn u.1 ow gB (mU gy.1 11 0 1)) ∧ ((gy.2.1 = 0 ∧ r.toInt = gy.2.2) ∨ (gy.2.1 ≠ 0 ∧ r.toInt = -1))) ∧ (¬ (0 ≤ p0.toInt ∧ p0.toInt < (V 3 12).toInt ∧ (V 23 (Int32.toNatClampNeg p0)).toInt = 1) → r.toInt = -1 ∧ (∃ ow, RWn u.1 ow gB (mU gm 0 1 0))) ∧ ((u.1 4 7).toInt = (V 4 7).toInt ∧ (u.1 4 8).toInt = (V 4 8).toInt)) (fun u => xw ad kk u.1 u.2.1 u.2.2) (fun u => xty kk u.2.2) (fun u => zcc Z - zcc u.2.2) (fun u => zss Z - zss u.2.2) A
set_option maxHeartbeats 4000000 in
set_option maxRecDepth 100000 in
theorem x_h_close9 (l : Launch) (D : va_G) (ks : KS) (sz : Nat) (ad : Nat → Nat) (kk : Nat → ClassId) (V : Vf) (L : Lf) (Z : XZ) (p0 : Int32) (b : Nat) (gB : Bk) (gm : Mm) (gy : CS) (gj : Nat) (hMV : rgd bX V) (hb2 : b < 2) (shk : (V 0 6).toInt = (b : Int)) (hi : HI V Z b) (h44 : (V 44 0).toInt + 340 ≤ 250000) (rnq : ∃ ow, RWn V ow gB gm) (bc : BKc V b gB) (g46 : gm 0 4 = 0 ∧ gm 0 6 = 0) (wfo : 0 < (V 3 13).toInt → WFB gB) (dzq : dzC V) (chq : (0 ≤ p0.toInt ∧ p0.toInt < (V 3 12).toInt ∧ (V 23 (Int32.toNatClampNeg p0)).toInt = 1) → CLs gB (V 3 12).toInt.toNat p0.toInt gj (mU gm 0 1 0, 0, 0) gy ∧ gj ≤ 340 ∧ gy.1 11 p0.toInt.toNat = 0)  : Met l yX11_close (Cond.code yX11_close cX11_close 7 (some .int) :: GW) (r_x_h_close9 Z) (va_Pc [.ref (ad 0), .int p0] (gp D ks (xw ad kk V L Z) (xty kk Z) sz)) (q_x_h_close9 D ks ad kk V L Z p0 b gB gm gy gj (va_A (xw ad kk V L Z) sz)) (zcc Z) (zss Z) (va_A (xw ad kk V L Z) sz) := by
  refine g_met (q_x_h_close9 D ks ad kk V L Z p0 b gB gm gy gj) (by decide) (Nat.le_of_ble_eq_true rfl) ?_
  intro p e s m below meth c A ls H locs hx hb hr hml hown hg hlocks hin hnw hgk hP hK hD hS hA hl
  replace hown : s.vm.findClass RX11 = some m.cls := hown
  replace hl : lv_has ls 7 [(0, .ref (ad 0)), (1, .int p0)] := hl
  replace hP : va_P D vwCl (xw ad kk V L Z) H := hP
  replace hD : va_D A (xw ad kk V L Z) := hD
  replace hK : va_K D vwCl (xty kk Z) s := hK
  have agV : agr [(0, 9), (3, 13), (3, 14), (3, 15), (4, 5), (4, 6), (5, 6), (5, 7), (5, 8), (5, 9), (5, 10), (5, 11), (5, 12), (5, 13), (5, 14), (44, 0)] [23, 24, 25, 26, 27, 28, 29, 30, 31, 32, 33, 34, 35, 36, 37, 39, 40, 67, 68, 69, 70, 71, 72, 73, 74, 75, 76, 77, 78, 79, 80, 81, 82, 83, 84, 85] V V := agr.rf
  have zoZ : ZL Z Z := ZL.rf
  refine W.know (fun ka kb => ?_)
  refine W.tight (k := zcc Z - zcc Z) (n := zss Z - zss Z) (by omega) (by omega) ?_
  have r1 : 0 ≤ ((V 0 6)).toInt ∧ ((V 0 6)).toInt ≤ 1 := hMV 0 6
  refine lv_aload_n hx hb dX11_close_0 rfl (lv_at hl 0 rfl) ?_
  refine va_get (D := D) (ci := 11) (v := .ref (ad 5)) (fs := (xfHouse ad V L Z)) (C := RX11) (T := TX11) (N := 10) hx hb hg inX11 hown hK hP 0 xgHouse rfl 5 (by decide) (hg _ w720) (fun _ h9 => h9) rfl dX11_close_1 ?_
  refine gA_void (gA_runV (As := []) (rest := []) (ci := 5) (q0 := 5) hx hb hml hown hg hP hD hK hS hA hnw hgk (x_restart l D ks H.size ad kk V L Z  hMV ) w1170 w1044 w1045 w171 w1046 rfl xgMachine hdV_yX5_restart ⟨Nat.le_of_ble_eq_true rfl, Nat.le_of_ble_eq_true rfl⟩ rfl hl.1 rfl (Nat.le_of_ble_eq_true rfl) dX11_close_4 ⟨z0, z0⟩) hP hD hK hS hA (fun u3 H locs w4 hP hD hK hS => ?_)
  obtain ⟨V10, L11⟩ := u3
  obtain ⟨hMV10, ajV10, axL11, t5, t6, t7, t8, t9⟩ := w4
  have axL11 : L = L11 := Eq.symm axL11
  subst axL11
  replace hP : va_P D vwCl (xw ad kk V10 L Z) H := hP
  replace hD : va_D A (xw ad kk V10 L Z) := hD
  replace hMV10 : rgd bX V10 := hMV10
  replace ajV10 : agr [(5, 6), (5, 7), (5, 8), (5, 9), (5, 13)] [] V V10 := ajV10
  have agV10 : agr [(0, 9), (3, 13), (3, 14), (3, 15), (4, 5), (4, 6), (5, 6), (5, 7), (5, 8), (5, 9), (5, 10), (5, 11), (5, 12), (5, 13), (5, 14), (44, 0)] [23, 24, 25, 26, 27, 28, 29, 30, 31, 32, 33, 34, 35, 36, 37, 39, 40, 67, 68, 69, 70, 71, 72, 73, 74, 75, 76, 77, 78, 79, 80, 81, 82, 83, 84, 85] V V10 := agV.tr ajV10 (by decide) (by decide)
  replace t5 : (V10 5 6).toInt = 0 := t5
  replace t6 : (V10 5 7).toInt = 0 := t6
  replace t7 : (V10 5 8).toInt = 0 := t7
  replace t8 : (V10 5 9).toInt = 0 := t8
  replace t9 : (V10 5 13).toInt = 0 := t9
  have r12 : 0 ≤ ((V10 5 6)).toInt ∧ ((V10 5 6)).toInt ≤ 400 := hMV10 5 6
  have r13 : 0 ≤ ((V10 5 7)).toInt ∧ ((V10 5 7)).toInt ≤ 2048 := hMV10 5 7
  have r14 : 0 ≤ ((V10 5 8)).toInt ∧ ((V10 5 8)).toInt ≤ 300 := hMV10 5 8
  have r15 : 0 ≤ ((V10 5 9)).toInt ∧ ((V10 5 9)).toInt ≤ 3 := hMV10 5 9
  have r16 : 0 ≤ ((V10 5 13)).toInt ∧ ((V10 5 13)).toInt ≤ 3000 := hMV10 5 13
  have rn0 : ∃ ow, RWn V10 ow gB (mU gm 0 1 0) := by
    obtain ⟨ow, h9⟩ := rnq
    exact ⟨ow, RWn.rst h9 (by omega) (ajV10 5 14 rfl) (fun k9 => (ajV10 3 k9 rfl)) (ajV10 4 6 rfl) (fun c9 k9 h1 h2 => agr.mid (show agr [(5, 6), (5, 7), (5, 8), (5, 9), (5, 13)] [] V V10 from (agr.tr agr.rf ajV10 (by decide) (by decide))) (by decide) h1 h2)⟩
  refine lv_aload_n hx hb dX11_close_7 rfl (lv_at hl 0 rfl) ?_
  refine va_get (D := D) (ci := 11) (v := .ref (ad 3)) (fs := (xfHouse ad V10 L Z)) (C := RX11) (T := TX11) (N := 10) hx hb hg inX11 hown hK hP 0 xgHouse rfl 3 (by decide) (hg _ w718) (fun _ h9 => h9) rfl dX11_close_8 ?_
  refine lv_iload_n hx hb dX11_close_11 rfl (lv_at hl 1 rfl) ?_
  refine gA_int (gA_runV (As := [.int p0]) (rest := []) (ci := 8) (q0 := 3) hx hb hml hown hg hP hD hK hS hA hnw hgk (x_isOpen9 l D ks H.size ad kk V10 L Z p0 hMV10 ) w1158 w1159 w1160 w164 w1161 rfl xgStock hdV_yX8_isOpen ⟨Nat.le_of_ble_eq_true rfl, Nat.le_of_ble_eq_true rfl⟩ rfl hl.1 rfl (Nat.le_of_ble_eq_true rfl) dX11_close_12 ⟨z0, z0⟩) hP hD hK hS hA (fun z17 u18 H locs w19 hP hD hK hS => ?_)
  obtain ⟨rgz17, t20, t21⟩ := w19
  replace rgz17 : 0 ≤ z17.toInt ∧ z17.toInt ≤ 1 := rgz17
  replace t20 : Imp (z17.toInt = 1) (0 ≤ p0.toInt ∧ p0.toInt < (V10 3 12).toInt) := t20
  replace t21 : (z17.toInt = 1 ∧ 0 ≤ p0.toInt ∧ p0.toInt < (V10 3 12).toInt ∧ (V10 23 (Int32.toNatClampNeg p0)).toInt = 1) ∨ (z17.toInt = 0 ∧ (p0.toInt < 0 ∨ (V10 3 12).toInt ≤ p0.toInt ∨ (V10 23 (Int32.toNatClampNeg p0)).toInt = 0)) := t21
  have pq22 : (V10 3 12).toInt = ((V 3 12)).toInt := congrArg Int32.toInt (ajV10 3 12 rfl)
  have r23 : 1 ≤ ((V 3 12)).toInt ∧ ((V 3 12)).toInt ≤ 40 := hMV 3 12
  refine lv_if_ne (tgt := 25) hx hb dX11_close_15 (by decide) (fun c24 => ?_) (fun c24 => ?_)
  · skip
    have f25 : z17.toInt ≠ 0 := b_neq rfl (by decide) c24
    have pq26 : (V10 23 (Int32.toNatClampNeg p0)).toInt = ((V 23 (Int32.toNatClampNeg p0))).toInt := congrArg Int32.toInt (ajV10 23 (Int32.toNatClampNeg p0) rfl)
    have r27 : 0 ≤ ((V 23 (Int32.toNatClampNeg p0))).toInt ∧ ((V 23 (Int32.toNatClampNeg p0))).toInt ≤ 1 := hMV 23 (Int32.toNatClampNeg p0)
    have cd28 : 0 ≤ p0.toInt ∧ p0.toInt < (V 3 12).toInt ∧ (V 23 (Int32.toNatClampNeg p0)).toInt = 1 := ⟨by omega, by omega, by omega⟩
    have kp9 := i_clamp (x := p0) rfl (by (first | exact om_eafa9039069c cd28.1 | omega))
    have cz9 := chq cd28
    refine lv_iconst (v := 0) hx hb dX11_close_25 (by decide) ?_
    refine lv_istore_n (lv' := [(2, .int 0), (0, .ref (ad 0)), (1, .int p0)]) hx hb dX11_close_26 rfl hl (by decide) rfl (fun ls hl => ?_)
    refine lv_iconst (v := 0) hx hb dX11_close_27 (by decide) ?_
    refine lv_istore_n (lv' := [(3, .int 0), (2, .int 0), (0, .ref (ad 0)), (1, .int p0)]) hx hb dX11_close_28 rfl hl (by decide) rfl (fun ls hl => ?_)
    refine lv_iconst (v := 0) hx hb dX11_close_29 (by decide) ?_
    refine lv_istore (lv' := [(4, .int 0), (3, .int 0), (2, .int 0), (0, .ref (ad 0)), (1, .int p0)]) hx hb dX11_close_30 hl (by decide) rfl (fun ls hl => ?_)
    have lp34 : ∀ (fulp34 : Nat) (y29 : Int32) (y30 : Int32) (y31 : Int32) (V32 : Vf) (Z33 : XZ) (H : Heap) (locs : List Loc) (ls : Array Slot), 0 ≤ y29.toInt ∧ y29.toInt ≤ 340 → 0 ≤ y30.toInt ∧ y30.toInt ≤ 340 → 0 ≤ y31.toInt ∧ y31.toInt ≤ 1 → MQZ V32 Z33 b → (V32 44 0).toInt ≤ (V 44 0).toInt + y29.toInt → (V32 5 6).toInt = 0 → (V32 5 7).toInt = 0 → (V32 5 8).toInt = 0 → y30.toInt ≤ y29.toInt → (∃ (k8 : Nat) (x8 : CS), ((k8 : Nat) : Int) + y29.toInt ≤ 340 ∧ CLw V32 gB (V 3 12).toInt.toNat p0.toInt gy k8 x8 ∧ x8.2.1 = y31.toInt ∧ x8.2.2 = y30.toInt ∧ Imp (0 < (V32 3 13).toInt) (0 < (V 3 13).toInt)) → 340 - y29.toInt < (fulp34 : Int) → agr [(0, 9), (3, 13), (3, 14), (3, 15), (4, 5), (4, 6), (5, 6), (5, 7), (5, 8), (5, 9), (5, 10), (5, 11), (5, 12), (5, 13), (5, 14), (44, 0)] [23, 24, 25, 26, 27, 28, 29, 30, 31, 32, 33, 34, 35, 36, 37, 39, 40, 67, 68, 69, 70, 71, 72, 73, 74, 75, 76, 77, 78, 79, 80, 81, 82, 83, 84, 85] V10 V32 → rgd bX V32 → ZL Z Z33 → va_K D vwCl (xty kk Z33) s → va_P D vwCl (xw ad kk V32 L Z33) H → va_D A (xw ad kk V32 L Z33) → va_S A s.heap H locs → lv_has ls 7 [(4, .int y29), (3, .int y30), (2, .int y31), (0, .ref (ad 0)), (1, .int p0)] → W p l e (r_x_h_close9 Z) s m ([.ref (ad 0), .int p0] : List Value).toArray below meth c H locs (zcc Z - zcc Z33) (zss Z - zss Z33) (MQ below (q_x_h_close9 D ks ad kk V L Z p0 b gB gm gy gj A) ([.ref (ad 0), .int p0] : List Value).toArray s (zcc Z) (zss Z) A) (F0 m 32 ls []) := by
      intro fulp34
      induction fulp34 with
      | zero =>
        intro y29 y30 y31 V32 Z33 H locs ls klp34_0 klp34_1 klp34_2 xlp34_0 xlp34_1 xlp34_2 xlp34_3 xlp34_4 xlp34_5 xlp34_6 hn ajV32 hMV32 zoZ33 hK hP hD hS hl
        exfalso; (first | exact om_351ff2853172 klp34_0.2 hn | omega)
      | succ fulp34 ihlp34 =>
        intro y29 y30 y31 V32 Z33 H locs ls klp34_0 klp34_1 klp34_2 xlp34_0 xlp34_1 xlp34_2 xlp34_3 xlp34_4 xlp34_5 xlp34_6 hn ajV32 hMV32 zoZ33 hK hP hD hS hl
        have agV32 : agr [(0, 9), (3, 13), (3, 14), (3, 15), (4, 5), (4, 6), (5, 6), (5, 7), (5, 8), (5, 9), (5, 10), (5, 11), (5, 12), (5, 13), (5, 14), (44, 0)] [23, 24, 25, 26, 27, 28, 29, 30, 31, 32, 33, 34, 35, 36, 37, 39, 40, 67, 68, 69, 70, 71, 72, 73, 74, 75, 76, 77, 78, 79, 80, 81, 82, 83, 84, 85] V V32 := agV10.tr ajV32 (by decide) (by decide)
        have zmZ33 := zoZ33.1
        have znZ33 := zoZ33.2.1
        have r35 : 0 ≤ ((V32 5 6)).toInt ∧ ((V32 5 6)).toInt ≤ 400 := hMV32 5 6
        have r36 : 0 ≤ ((V32 5 7)).toInt ∧ ((V32 5 7)).toInt ≤ 2048 := hMV32 5 7
        have r37 : 0 ≤ ((V32 5 8)).toInt ∧ ((V32 5 8)).toInt ≤ 300 := hMV32 5 8
        refine lv_iload hx hb dX11_close_32 (lv_at hl 0 rfl) ?_
        refine lv_sipush (v := 340) hx hb dX11_close_34 (by decide) ?_
        refine lv_icmp_ge (tgt := 126) hx hb dX11_close_37 (by decide) (fun c38 => ?_) (fun c38 => ?_)
        · skip
          have f39 : 340 ≤ y29.toInt := b_le (by decide) rfl c38
          refine lv_aload_n hx hb dX11_close_126 rfl (lv_at hl 3 rfl) ?_
          refine va_get (D := D) (ci := 11) (v := .ref (ad 3)) (fs := (xfHouse ad V32 L Z33)) (C := RX11) (T := TX11) (N := 10) hx hb hg inX11 hown hK hP 0 xgHouse rfl 3 (by decide) (hg _ w718) (fun _ h9 => h9) rfl dX11_close_127 ?_
          refine gA_void (gA_runV (As := []) (rest := []) (ci := 8) (q0 := 3) hx hb hml hown hg hP hD hK hS hA hnw hgk (x_reopenHouse9 l D ks H.size ad kk V32 L Z33  hMV32 ) w1542 w1543 w1544 w164 w1545 rfl xgStock hdV_yX8_reopenHouse ⟨Nat.le_of_ble_eq_true rfl, Nat.le_of_ble_eq_true rfl⟩ rfl hl.1 rfl (Nat.le_of_ble_eq_true rfl) dX11_close_130 ⟨z0, z0⟩) hP hD hK hS hA (fun u41 H locs w42 hP hD hK hS => ?_)
          obtain ⟨V44, L45⟩ := u41
          obtain ⟨hMV44, ajV44, axL45, t43⟩ := w42
          have axL45 : L = L45 := Eq.symm axL45
          subst axL45
          replace hP : va_P D vwCl (xw ad kk V44 L Z33) H := hP
          replace hD : va_D A (xw ad kk V44 L Z33) := hD
          replace hMV44 : rgd bX V44 := hMV44
          replace ajV44 : agr [] [23] V32 V44 := ajV44
          have agV44 : agr [(0, 9), (3, 13), (3, 14), (3, 15), (4, 5), (4, 6), (5, 6), (5, 7), (5, 8), (5, 9), (5, 10), (5, 11), (5, 12), (5, 13), (5, 14), (44, 0)] [23, 24, 25, 26, 27, 28, 29, 30, 31, 32, 33, 34, 35, 36, 37, 39, 40, 67, 68, 69, 70, 71, 72, 73, 74, 75, 76, 77, 78, 79, 80, 81, 82, 83, 84, 85] V V44 := agV32.tr ajV44 (by decide) (by decide)
          replace t43 : ((True) ∧ V44 = (up2 V32 23 (Int32.toNatClampNeg 0) 1)) := t43
          have hw46 := t43.2
          have hV44 : V44 = up2 V32 23 (Int32.toNatClampNeg 0) 1 := by rw [hw46]
          refine lv_iload_n hx hb dX11_close_133 rfl (lv_at hl 2 rfl) ?_
          refine lv_if_eq (tgt := 147) hx hb dX11_close_134 (by decide) (fun c47 => ?_) (fun c47 => ?_)
          · skip
            have f48 : y31.toInt = 0 := b_eq rfl (by decide) c47
            refine lv_aload_n hx hb dX11_close_147 rfl (lv_at hl 3 rfl) ?_
            refine lv_iconst (v := 0) hx hb dX11_close_148 (by decide) ?_
            refine lv_iload_n hx hb dX11_close_149 rfl (lv_at hl 1 rfl) ?_
            have r49 : Int32.toInt 0 = 0 := by decide
            refine gA_int (gA_runV (As := [.int 0, .int y30]) (rest := []) (ci := 11) (q0 := 0) hx hb hml hown hg hP hD hK hS hA hnw hgk (x_ends9 l D ks H.size ad kk V44 L Z33 0 y30 hMV44 ) w1171 w1173 w42 w156 w1174 rfl xgHouse hdV_yX11_ends ⟨Nat.le_of_ble_eq_true rfl, Nat.le_of_ble_eq_true rfl⟩ rfl hl.1 rfl (Nat.le_of_ble_eq_true rfl) dX11_close_150 ⟨z0, z0⟩) hP hD hK hS hA (fun z50 u51 H locs w52 hP hD hK hS => ?_)
            obtain ⟨V54, L55⟩ := u51
            obtain ⟨hMV54, ajV54, axL55, t53⟩ := w52
            have axL55 : L = L55 := Eq.symm axL55
            subst axL55
            replace hP : va_P D vwCl (xw ad kk V54 L Z33) H := hP
            replace hD : va_D A (xw ad kk V54 L Z33) := hD
            replace hMV54 : rgd bX V54 := hMV54
            replace ajV54 : agr [(0, 9)] [] V44 V54 := ajV54
            have agV54 : agr [(0, 9), (3, 13), (3, 14), (3, 15), (4, 5), (4, 6), (5, 6), (5, 7), (5, 8), (5, 9), (5, 10), (5, 11), (5, 12), (5, 13), (5, 14), (44, 0)] [23, 24, 25, 26, 27, 28, 29, 30, 31, 32, 33, 34, 35, 36, 37, 39, 40, 67, 68, 69, 70, 71, 72, 73, 74, 75, 76, 77, 78, 79, 80, 81, 82, 83, 84, 85] V V54 := agV44.tr ajV54 (by decide) (by decide)
            replace t53 : z50.toInt = y30.toInt := t53
            have pq56 : (V54 44 0).toInt = ((V32 44 0)).toInt := congrArg Int32.toInt ((ajV54 44 0 rfl).trans (up2_o hV44 (by decide)))
            have rp57 : HI V54 Z33 b := (HI.ag (HI.ag xlp34_0.1 (agr.up (fs := []) (cs := [23]) agr.rf hV44 rfl) (by decide)) ajV54 (by decide))
            have pq59 : (V32 3 12).toInt = ((V 3 12)).toInt := congrArg Int32.toInt ((ajV32 3 12 rfl).trans (ajV10 3 12 rfl))
            have ce58 : (∃ ow, RWn V54 ow gB (mU gy.1 11 0 1)) ∧ ((gy.2.1 = 0 ∧ z50.toInt = gy.2.2) ∨ (gy.2.1 ≠ 0 ∧ z50.toInt = -1)) := by
              obtain ⟨k8, x8, kb8, ⟨cl9, rw8, m49⟩, sp8, ct8, ob8⟩ := xlp34_6
              have ex8 : x8 = gy := by
                cases k8 with
                | zero => exact cl9
                | succ k7 => exfalso; have op8 : x8.1 11 p0.toInt.toNat ≠ 0 := cl9.1; obtain ⟨ow9, h9⟩ := rw8; have h8 := (h9.2.2.2.1.2.2 (Int32.toNatClampNeg p0) (by omega)).1; have h7 : (V32 23 (Int32.toNatClampNeg p0)).toInt = x8.1 11 p0.toInt.toNat := h8; omega
              rw [ex8] at rw8 sp8 ct8
              obtain ⟨ow9, rn9⟩ := rw8
              exact ⟨⟨ow9, RWn.es (RWn.reop rn9 hV44) (ESw.ag (show agr [(0, 9)] [] V44 V54 from (agr.tr agr.rf ajV54 (by decide) (by decide))) (by decide))⟩, (by omega)⟩
            have pq60 : (V54 4 7).toInt = ((V 4 7)).toInt := congrArg Int32.toInt ((ajV54 4 7 rfl).trans ((up2_o hV44 (by decide)).trans ((ajV32 4 7 rfl).trans (ajV10 4 7 rfl))))
            have pq61 : (V54 4 8).toInt = ((V 4 8)).toInt := congrArg Int32.toInt ((ajV54 4 8 rfl).trans ((up2_o hV44 (by decide)).trans ((ajV32 4 8 rfl).trans (ajV10 4 8 rfl))))
            refine W.know (fun kr1 kr2 => ?_)
            refine W.widen (k := zcc Z) (n := zss Z) (Nat.sub_le _ _) (Nat.sub_le _ _) ?_
            exact W.iret (v := z50) hx hb hr (fun t ht hW => ⟨⟨z50, (V54, L, Z33), rfl, ⟨hMV54, agV54, rfl, zoZ33, rp57, (show (V54 44 0).toInt ≤ (V 44 0).toInt + 340 from by first | exact om_8d93cc042622 klp34_0.2 xlp34_1 pq56 | first | omega | ((try (have i_t20 := Imp.go t20 (by omega))); omega)), (fun _ => ce58), (fun h9 => absurd cd28 h9), ⟨by omega, by omega⟩⟩, ⟨by rw [ht]; exact hP, va_K.moved hW.alike hK, hD⟩, by rw [ht]; exact kr1, by rw [ht]; exact kr2⟩, hS.F ht⟩) hS.2.2 dX11_close_153
          · skip
            have f62 : y31.toInt ≠ 0 := b_neq rfl (by decide) c47
            refine lv_aload_n hx hb dX11_close_137 rfl (lv_at hl 3 rfl) ?_
            refine lv_bipush (v := 6) hx hb dX11_close_138 (by decide) ?_
            refine lv_iconst (v := (-1)) hx hb dX11_close_140 (by decide) ?_
            have r63 : Int32.toInt 6 = 6 := by decide
            have r64 : Int32.toInt (-1) = (-1) := by decide
            refine gA_int (gA_runV (As := [.int 6, .int (-1)]) (rest := []) (ci := 11) (q0 := 0) hx hb hml hown hg hP hD hK hS hA hnw hgk (x_ends9 l D ks H.size ad kk V44 L Z33 6 (-1) hMV44 ) w1171 w1173 w42 w156 w1174 rfl xgHouse hdV_yX11_ends ⟨Nat.le_of_ble_eq_true rfl, Nat.le_of_ble_eq_true rfl⟩ rfl hl.1 rfl (Nat.le_of_ble_eq_true rfl) dX11_close_141 ⟨z0, z0⟩) hP hD hK hS hA (fun z65 u66 H locs w67 hP hD hK hS => ?_)
            obtain ⟨V69, L70⟩ := u66
            obtain ⟨hMV69, ajV69, axL70, t68⟩ := w67
            have axL70 : L = L70 := Eq.symm axL70
            subst axL70
            replace hP : va_P D vwCl (xw ad kk V69 L Z33) H := hP
            replace hD : va_D A (xw ad kk V69 L Z33) := hD
            replace hMV69 : rgd bX V69 := hMV69
            replace ajV69 : agr [(0, 9)] [] V44 V69 := ajV69
            have agV69 : agr [(0, 9), (3, 13), (3, 14), (3, 15), (4, 5), (4, 6), (5, 6), (5, 7), (5, 8), (5, 9), (5, 10), (5, 11), (5, 12), (5, 13), (5, 14), (44, 0)] [23, 24, 25, 26, 27, 28, 29, 30, 31, 32, 33, 34, 35, 36, 37, 39, 40, 67, 68, 69, 70, 71, 72, 73, 74, 75, 76, 77, 78, 79, 80, 81, 82, 83, 84, 85] V V69 := agV44.tr ajV69 (by decide) (by decide)
            replace t68 : z65.toInt = (Int32.toInt (-1)) := t68
            refine lv_goto (tgt := 153) hx hb dX11_close_144 (by decide) ?_
            have pq71 : (V69 44 0).toInt = ((V32 44 0)).toInt := congrArg Int32.toInt ((ajV69 44 0 rfl).trans (up2_o hV44 (by decide)))
            have rp72 : HI V69 Z33 b := (HI.ag (HI.ag xlp34_0.1 (agr.up (fs := []) (cs := [23]) agr.rf hV44 rfl) (by decide)) ajV69 (by decide))
            have pq74 : (V32 3 12).toInt = ((V 3 12)).toInt := congrArg Int32.toInt ((ajV32 3 12 rfl).trans (ajV10 3 12 rfl))
            have ce73 : (∃ ow, RWn V69 ow gB (mU gy.1 11 0 1)) ∧ ((gy.2.1 = 0 ∧ z65.toInt = gy.2.2) ∨ (gy.2.1 ≠ 0 ∧ z65.toInt = -1)) := by
              obtain ⟨k8, x8, kb8, ⟨cl9, rw8, m49⟩, sp8, ct8, ob8⟩ := xlp34_6
              have ex8 : x8 = gy := by
                cases k8 with
                | zero => exact cl9
                | succ k7 => exfalso; have op8 : x8.1 11 p0.toInt.toNat ≠ 0 := cl9.1; obtain ⟨ow9, h9⟩ := rw8; have h8 := (h9.2.2.2.1.2.2 (Int32.toNatClampNeg p0) (by omega)).1; have h7 : (V32 23 (Int32.toNatClampNeg p0)).toInt = x8.1 11 p0.toInt.toNat := h8; omega
              rw [ex8] at rw8 sp8 ct8
              obtain ⟨ow9, rn9⟩ := rw8
              exact ⟨⟨ow9, RWn.es (RWn.reop rn9 hV44) (ESw.ag (show agr [(0, 9)] [] V44 V69 from (agr.tr agr.rf ajV69 (by decide) (by decide))) (by decide))⟩, (by omega)⟩
            have pq75 : (V69 4 7).toInt = ((V 4 7)).toInt := congrArg Int32.toInt ((ajV69 4 7 rfl).trans ((up2_o hV44 (by decide)).trans ((ajV32 4 7 rfl).trans (ajV10 4 7 rfl))))
            have pq76 : (V69 4 8).toInt = ((V 4 8)).toInt := congrArg Int32.toInt ((ajV69 4 8 rfl).trans ((up2_o hV44 (by decide)).trans ((ajV32 4 8 rfl).trans (ajV10 4 8 rfl))))
            refine W.know (fun kr1 kr2 => ?_)
            refine W.widen (k := zcc Z) (n := zss Z) (Nat.sub_le _ _) (Nat.sub_le _ _) ?_
            exact W.iret (v := z65) hx hb hr (fun t ht hW => ⟨⟨z65, (V69, L, Z33), rfl, ⟨hMV69, agV69, rfl, zoZ33, rp72, (show (V69 44 0).toInt ≤ (V 44 0).toInt + 340 from by first | exact om_8d93cc042622 klp34_0.2 xlp34_1 pq71 | first | omega | ((try (have i_t20 := Imp.go t20 (by omega))); omega)), (fun _ => ce73), (fun h9 => absurd cd28 h9), ⟨by omega, by omega⟩⟩, ⟨by rw [ht]; exact hP, va_K.moved hW.alike hK, hD⟩, by rw [ht]; exact kr1, by rw [ht]; exact kr2⟩, hS.F ht⟩) hS.2.2 dX11_close_153
        · skip
          have f77 : y29.toInt < 340 := b_nle (by decide) rfl c38
          refine lv_aload_n hx hb dX11_close_40 rfl (lv_at hl 3 rfl) ?_
          refine va_get (D := D) (ci := 11) (v := .ref (ad 3)) (fs := (xfHouse ad V32 L Z33)) (C := RX11) (T := TX11) (N := 10) hx hb hg inX11 hown hK hP 0 xgHouse rfl 3 (by decide) (hg _ w718) (fun _ h9 => h9) rfl dX11_close_41 ?_
          refine lv_iload_n hx hb dX11_close_44 rfl (lv_at hl 4 rfl) ?_
          refine gA_int (gA_runV (As := [.int p0]) (rest := []) (ci := 8) (q0 := 3) hx hb hml hown hg hP hD hK hS hA hnw hgk (x_isOpen9 l D ks H.size ad kk V32 L Z33 p0 hMV32 ) w1158 w1159 w1160 w164 w1161 rfl xgStock hdV_yX8_isOpen ⟨Nat.le_of_ble_eq_true rfl, Nat.le_of_ble_eq_true rfl⟩ rfl hl.1 rfl (Nat.le_of_ble_eq_true rfl) dX11_close_45 ⟨z0, z0⟩) hP hD hK hS hA (fun z78 u79 H locs w80 hP hD hK hS => ?_)
          obtain ⟨rgz78, t81, t82⟩ := w80
          replace rgz78 : 0 ≤ z78.toInt ∧ z78.toInt ≤ 1 := rgz78
          replace t81 : Imp (z78.toInt = 1) (0 ≤ p0.toInt ∧ p0.toInt < (V32 3 12).toInt) := t81
          replace t82 : (z78.toInt = 1 ∧ 0 ≤ p0.toInt ∧ p0.toInt < (V32 3 12).toInt ∧ (V32 23 (Int32.toNatClampNeg p0)).toInt = 1) ∨ (z78.toInt = 0 ∧ (p0.toInt < 0 ∨ (V32 3 12).toInt ≤ p0.toInt ∨ (V32 23 (Int32.toNatClampNeg p0)).toInt = 0)) := t82
          have pq83 : (V32 3 12).toInt = ((V 3 12)).toInt := congrArg Int32.toInt ((ajV32 3 12 rfl).trans (ajV10 3 12 rfl))
          refine lv_if_eq (tgt := 126) hx hb dX11_close_48 (by decide) (fun c84 => ?_) (fun c84 => ?_)
          · skip
            have f85 : z78.toInt = 0 := b_eq rfl (by decide) c84
            refine lv_aload_n hx hb dX11_close_126 rfl (lv_at hl 3 rfl) ?_
            refine va_get (D := D) (ci := 11) (v := .ref (ad 3)) (fs := (xfHouse ad V32 L Z33)) (C := RX11) (T := TX11) (N := 10) hx hb hg inX11 hown hK hP 0 xgHouse rfl 3 (by decide) (hg _ w718) (fun _ h9 => h9) rfl dX11_close_127 ?_
            refine gA_void (gA_runV (As := []) (rest := []) (ci := 8) (q0 := 3) hx hb hml hown hg hP hD hK hS hA hnw hgk (x_reopenHouse9 l D ks H.size ad kk V32 L Z33  hMV32 ) w1542 w1543 w1544 w164 w1545 rfl xgStock hdV_yX8_reopenHouse ⟨Nat.le_of_ble_eq_true rfl, Nat.le_of_ble_eq_true rfl⟩ rfl hl.1 rfl (Nat.le_of_ble_eq_true rfl) dX11_close_130 ⟨z0, z0⟩) hP hD hK hS hA (fun u87 H locs w88 hP hD hK hS => ?_)
            obtain ⟨V90, L91⟩ := u87
            obtain ⟨hMV90, ajV90, axL91, t89⟩ := w88
            have axL91 : L = L91 := Eq.symm axL91
            subst axL91
            replace hP : va_P D vwCl (xw ad kk V90 L Z33) H := hP
            replace hD : va_D A (xw ad kk V90 L Z33) := hD
            replace hMV90 : rgd bX V90 := hMV90
            replace ajV90 : agr [] [23] V32 V90 := ajV90
            have agV90 : agr [(0, 9), (3, 13), (3, 14), (3, 15), (4, 5), (4, 6), (5, 6), (5, 7), (5, 8), (5, 9), (5, 10), (5, 11), (5, 12), (5, 13), (5, 14), (44, 0)] [23, 24, 25, 26, 27, 28, 29, 30, 31, 32, 33, 34, 35, 36, 37, 39, 40, 67, 68, 69, 70, 71, 72, 73, 74, 75, 76, 77, 78, 79, 80, 81, 82, 83, 84, 85] V V90 := agV32.tr ajV90 (by decide) (by decide)
            replace t89 : ((True) ∧ V90 = (up2 V32 23 (Int32.toNatClampNeg 0) 1)) := t89
            have hw92 := t89.2
            have hV90 : V90 = up2 V32 23 (Int32.toNatClampNeg 0) 1 := by rw [hw92]
            refine lv_iload_n hx hb dX11_close_133 rfl (lv_at hl 2 rfl) ?_
            refine lv_if_eq (tgt := 147) hx hb dX11_close_134 (by decide) (fun c93 => ?_) (fun c93 => ?_)
            · skip
              have f94 : y31.toInt = 0 := b_eq rfl (by decide) c93
              refine lv_aload_n hx hb dX11_close_147 rfl (lv_at hl 3 rfl) ?_
              refine lv_iconst (v := 0) hx hb dX11_close_148 (by decide) ?_
              refine lv_iload_n hx hb dX11_close_149 rfl (lv_at hl 1 rfl) ?_
              have r95 : Int32.toInt 0 = 0 := by decide
              refine gA_int (gA_runV (As := [.int 0, .int y30]) (rest := []) (ci := 11) (q0 := 0) hx hb hml hown hg hP hD hK hS hA hnw hgk (x_ends9 l D ks H.size ad kk V90 L Z33 0 y30 hMV90 ) w1171 w1173 w42 w156 w1174 rfl xgHouse hdV_yX11_ends ⟨Nat.le_of_ble_eq_true rfl, Nat.le_of_ble_eq_true rfl⟩ rfl hl.1 rfl (Nat.le_of_ble_eq_true rfl) dX11_close_150 ⟨z0, z0⟩) hP hD hK hS hA (fun z96 u97 H locs w98 hP hD hK hS => ?_)
              obtain ⟨V100, L101⟩ := u97
              obtain ⟨hMV100, ajV100, axL101, t99⟩ := w98
              have axL101 : L = L101 := Eq.symm axL101
              subst axL101
              replace hP : va_P D vwCl (xw ad kk V100 L Z33) H := hP
              replace hD : va_D A (xw ad kk V100 L Z33) := hD
              replace hMV100 : rgd bX V100 := hMV100
              replace ajV100 : agr [(0, 9)] [] V90 V100 := ajV100
              have agV100 : agr [(0, 9), (3, 13), (3, 14), (3, 15), (4, 5), (4, 6), (5, 6), (5, 7), (5, 8), (5, 9), (5, 10), (5, 11), (5, 12), (5, 13), (5, 14), (44, 0)] [23, 24, 25, 26, 27, 28, 29, 30, 31, 32, 33, 34, 35, 36, 37, 39, 40, 67, 68, 69, 70, 71, 72, 73, 74, 75, 76, 77, 78, 79, 80, 81, 82, 83, 84, 85] V V100 := agV90.tr ajV100 (by decide) (by decide)
              replace t99 : z96.toInt = y30.toInt := t99
              have pq102 : (V100 44 0).toInt = ((V32 44 0)).toInt := congrArg Int32.toInt ((ajV100 44 0 rfl).trans (up2_o hV90 (by decide)))
              have rp103 : HI V100 Z33 b := (HI.ag (HI.ag xlp34_0.1 (agr.up (fs := []) (cs := [23]) agr.rf hV90 rfl) (by decide)) ajV100 (by decide))
              have r105 : 0 ≤ ((V32 23 (Int32.toNatClampNeg p0))).toInt ∧ ((V32 23 (Int32.toNatClampNeg p0))).toInt ≤ 1 := hMV32 23 (Int32.toNatClampNeg p0)
              have ce104 : (∃ ow, RWn V100 ow gB (mU gy.1 11 0 1)) ∧ ((gy.2.1 = 0 ∧ z96.toInt = gy.2.2) ∨ (gy.2.1 ≠ 0 ∧ z96.toInt = -1)) := by
                obtain ⟨k8, x8, kb8, ⟨cl9, rw8, m49⟩, sp8, ct8, ob8⟩ := xlp34_6
                have ex8 : x8 = gy := by
                  cases k8 with
                  | zero => exact cl9
                  | succ k7 => exfalso; have op8 : x8.1 11 p0.toInt.toNat ≠ 0 := cl9.1; obtain ⟨ow9, h9⟩ := rw8; have h8 := (h9.2.2.2.1.2.2 (Int32.toNatClampNeg p0) (by omega)).1; have h7 : (V32 23 (Int32.toNatClampNeg p0)).toInt = x8.1 11 p0.toInt.toNat := h8; omega
                rw [ex8] at rw8 sp8 ct8
                obtain ⟨ow9, rn9⟩ := rw8
                exact ⟨⟨ow9, RWn.es (RWn.reop rn9 hV90) (ESw.ag (show agr [(0, 9)] [] V90 V100 from (agr.tr agr.rf ajV100 (by decide) (by decide))) (by decide))⟩, (by omega)⟩
              have pq106 : (V100 4 7).toInt = ((V 4 7)).toInt := congrArg Int32.toInt ((ajV100 4 7 rfl).trans ((up2_o hV90 (by decide)).trans ((ajV32 4 7 rfl).trans (ajV10 4 7 rfl))))
              have pq107 : (V100 4 8).toInt = ((V 4 8)).toInt := congrArg Int32.toInt ((ajV100 4 8 rfl).trans ((up2_o hV90 (by decide)).trans ((ajV32 4 8 rfl).trans (ajV10 4 8 rfl))))
              refine W.know (fun kr1 kr2 => ?_)
              refine W.widen (k := zcc Z) (n := zss Z) (Nat.sub_le _ _) (Nat.sub_le _ _) ?_
              exact W.iret (v := z96) hx hb hr (fun t ht hW => ⟨⟨z96, (V100, L, Z33), rfl, ⟨hMV100, agV100, rfl, zoZ33, rp103, (show (V100 44 0).toInt ≤ (V 44 0).toInt + 340 from by first | exact om_44c41a7cc1f7 xlp34_1 f77 pq102 | first | omega | ((try (have i_t81 := Imp.go t81 (by omega))); (try (have i_t20 := Imp.go t20 (by omega))); (try (have i_t20 := Imp.go t20 (by omega))); (try (have i_t81 := Imp.go t81 (by omega))); omega)), (fun _ => ce104), (fun h9 => absurd cd28 h9), ⟨by omega, by omega⟩⟩, ⟨by rw [ht]; exact hP, va_K.moved hW.alike hK, hD⟩, by rw [ht]; exact kr1, by rw [ht]; exact kr2⟩, hS.F ht⟩) hS.2.2 dX11_close_153
            · skip
              have f108 : y31.toInt ≠ 0 := b_neq rfl (by decide) c93
              refine lv_aload_n hx hb dX11_close_137 rfl (lv_at hl 3 rfl) ?_
              refine lv_bipush (v := 6) hx hb dX11_close_138 (by decide) ?_
              refine lv_iconst (v := (-1)) hx hb dX11_close_140 (by decide) ?_
              have r109 : Int32.toInt 6 = 6 := by decide
              have r110 : Int32.toInt (-1) = (-1) := by decide
              refine gA_int (gA_runV (As := [.int 6, .int (-1)]) (rest := []) (ci := 11) (q0 := 0) hx hb hml hown hg hP hD hK hS hA hnw hgk (x_ends9 l D ks H.size ad kk V90 L Z33 6 (-1) hMV90 ) w1171 w1173 w42 w156 w1174 rfl xgHouse hdV_yX11_ends ⟨Nat.le_of_ble_eq_true rfl, Nat.le_of_ble_eq_true rfl⟩ rfl hl.1 rfl (Nat.le_of_ble_eq_true rfl) dX11_close_141 ⟨z0, z0⟩) hP hD hK hS hA (fun z111 u112 H locs w113 hP hD hK hS => ?_)
              obtain ⟨V115, L116⟩ := u112
              obtain ⟨hMV115, ajV115, axL116, t114⟩ := w113
              have axL116 : L = L116 := Eq.symm axL116
              subst axL116
              replace hP : va_P D vwCl (xw ad kk V115 L Z33) H := hP
              replace hD : va_D A (xw ad kk V115 L Z33) := hD
              replace hMV115 : rgd bX V115 := hMV115
              replace ajV115 : agr [(0, 9)] [] V90 V115 := ajV115
              have agV115 : agr [(0, 9), (3, 13), (3, 14), (3, 15), (4, 5), (4, 6), (5, 6), (5, 7), (5, 8), (5, 9), (5, 10), (5, 11), (5, 12), (5, 13), (5, 14), (44, 0)] [23, 24, 25, 26, 27, 28, 29, 30, 31, 32, 33, 34, 35, 36, 37, 39, 40, 67, 68, 69, 70, 71, 72, 73, 74, 75, 76, 77, 78, 79, 80, 81, 82, 83, 84, 85] V V115 := agV90.tr ajV115 (by decide) (by decide)
              replace t114 : z111.toInt = (Int32.toInt (-1)) := t114
              refine lv_goto (tgt := 153) hx hb dX11_close_144 (by decide) ?_
              have pq117 : (V115 44 0).toInt = ((V32 44 0)).toInt := congrArg Int32.toInt ((ajV115 44 0 rfl).trans (up2_o hV90 (by decide)))
              have rp118 : HI V115 Z33 b := (HI.ag (HI.ag xlp34_0.1 (agr.up (fs := []) (cs := [23]) agr.rf hV90 rfl) (by decide)) ajV115 (by decide))
              have r120 : 0 ≤ ((V32 23 (Int32.toNatClampNeg p0))).toInt ∧ ((V32 23 (Int32.toNatClampNeg p0))).toInt ≤ 1 := hMV32 23 (Int32.toNatClampNeg p0)
              have ce119 : (∃ ow, RWn V115 ow gB (mU gy.1 11 0 1)) ∧ ((gy.2.1 = 0 ∧ z111.toInt = gy.2.2) ∨ (gy.2.1 ≠ 0 ∧ z111.toInt = -1)) := by
                obtain ⟨k8, x8, kb8, ⟨cl9, rw8, m49⟩, sp8, ct8, ob8⟩ := xlp34_6
                have ex8 : x8 = gy := by
                  cases k8 with
                  | zero => exact cl9
                  | succ k7 => exfalso; have op8 : x8.1 11 p0.toInt.toNat ≠ 0 := cl9.1; obtain ⟨ow9, h9⟩ := rw8; have h8 := (h9.2.2.2.1.2.2 (Int32.toNatClampNeg p0) (by omega)).1; have h7 : (V32 23 (Int32.toNatClampNeg p0)).toInt = x8.1 11 p0.toInt.toNat := h8; omega
                rw [ex8] at rw8 sp8 ct8
                obtain ⟨ow9, rn9⟩ := rw8
                exact ⟨⟨ow9, RWn.es (RWn.reop rn9 hV90) (ESw.ag (show agr [(0, 9)] [] V90 V115 from (agr.tr agr.rf ajV115 (by decide) (by decide))) (by decide))⟩, (by omega)⟩
              have pq121 : (V115 4 7).toInt = ((V 4 7)).toInt := congrArg Int32.toInt ((ajV115 4 7 rfl).trans ((up2_o hV90 (by decide)).trans ((ajV32 4 7 rfl).trans (ajV10 4 7 rfl))))
              have pq122 : (V115 4 8).toInt = ((V 4 8)).toInt := congrArg Int32.toInt ((ajV115 4 8 rfl).trans ((up2_o hV90 (by decide)).trans ((ajV32 4 8 rfl).trans (ajV10 4 8 rfl))))
              refine W.know (fun kr1 kr2 => ?_)
              refine W.widen (k := zcc Z) (n := zss Z) (Nat.sub_le _ _) (Nat.sub_le _ _) ?_
              exact W.iret (v := z111) hx hb hr (fun t ht hW => ⟨⟨z111, (V115, L, Z33), rfl, ⟨hMV115, agV115, rfl, zoZ33, rp118, (show (V115 44 0).toInt ≤ (V 44 0).toInt + 340 from by first | exact om_44c41a7cc1f7 xlp34_1 f77 pq117 | first | omega | ((try (have i_t81 := Imp.go t81 (by omega))); (try (have i_t20 := Imp.go t20 (by omega))); (try (have i_t20 := Imp.go t20 (by omega))); (try (have i_t81 := Imp.go t81 (by omega))); omega)), (fun _ => ce119), (fun h9 => absurd cd28 h9), ⟨by omega, by omega⟩⟩, ⟨by rw [ht]; exact hP, va_K.moved hW.alike hK, hD⟩, by rw [ht]; exact kr1, by rw [ht]; exact kr2⟩, hS.F ht⟩) hS.2.2 dX11_close_153
          · skip
            have f123 : z78.toInt ≠ 0 := b_neq rfl (by decide) c84
            have rh124 := Imp.go t81 (by (first | exact om_2ebe32d50835 rgz78.1 rgz78.2 f123 | omega))
            have r125 : 0 ≤ ((V32 23 (Int32.toNatClampNeg p0))).toInt ∧ ((V32 23 (Int32.toNatClampNeg p0))).toInt ≤ 1 := hMV32 23 (Int32.toNatClampNeg p0)
            have r126 : 0 ≤ ((V32 3 13)).toInt ∧ ((V32 3 13)).toInt ≤ 300 := hMV32 3 13
            obtain ⟨k8, x8, kb8, ⟨cl9, rw8, m49⟩, sp8, ct8, ob8⟩ := xlp34_6
            have op8 : x8.1 11 p0.toInt.toNat ≠ 0 := by obtain ⟨ow9, h9⟩ := rw8; have h8 := (h9.2.2.2.1.2.2 (Int32.toNatClampNeg p0) (by omega)).1; have h7 : (V32 23 (Int32.toNatClampNeg p0)).toInt = x8.1 11 p0.toInt.toNat := h8; omega
            obtain ⟨k7, hk7⟩ : ∃ k7, k8 = k7 + 1 := by
              cases k8 with
              | zero => exfalso; have h9 : x8 = gy := cl9; rw [h9] at op8; exact op8 cz9.2.2
              | succ k7 => exact ⟨k7, rfl⟩
            subst hk7
            obtain ⟨_, z8, c18, cl8⟩ := cl9
            have dzv : dzC V32 := dzC.mv dzq ((ajV32 3 12 rfl).trans (ajV10 3 12 rfl)) (fun i9 => (show agr [(0, 9), (3, 13), (3, 14), (3, 15), (4, 5), (4, 6), (5, 6), (5, 7), (5, 8), (5, 9), (5, 10), (5, 11), (5, 12), (5, 13), (5, 14), (44, 0)] [23, 24, 25, 26, 27, 28, 29, 30, 31, 32, 33, 34, 35, 36, 37, 39, 40, 67, 68, 69, 70, 71, 72, 73, 74, 75, 76, 77, 78, 79, 80, 81, 82, 83, 84, 85] V V32 from (agr.tr (agr.tr agr.rf ajV10 (by decide) (by decide)) ajV32 (by decide) (by decide))) 21 i9 rfl) (fun i9 => (show agr [(0, 9), (3, 13), (3, 14), (3, 15), (4, 5), (4, 6), (5, 6), (5, 7), (5, 8), (5, 9), (5, 10), (5, 11), (5, 12), (5, 13), (5, 14), (44, 0)] [23, 24, 25, 26, 27, 28, 29, 30, 31, 32, 33, 34, 35, 36, 37, 39, 40, 67, 68, 69, 70, 71, 72, 73, 74, 75, 76, 77, 78, 79, 80, 81, 82, 83, 84, 85] V V32 from (agr.tr (agr.tr agr.rf ajV10 (by decide) (by decide)) ajV32 (by decide) (by decide))) 22 i9 rfl)
            have ns8 : (V32 3 12).toInt.toNat = (V 3 12).toInt.toNat := by rw [((ajV32 3 12 rfl).trans (ajV10 3 12 rfl))]
            refine lv_aload_n hx hb dX11_close_51 rfl (lv_at hl 3 rfl) ?_
            refine va_get (D := D) (ci := 11) (v := .ref (ad 3)) (fs := (xfHouse ad V32 L Z33)) (C := RX11) (T := TX11) (N := 10) hx hb hg inX11 hown hK hP 0 xgHouse rfl 3 (by decide) (hg _ w718) (fun _ h9 => h9) rfl dX11_close_52 ?_
            refine lv_iload_n hx hb dX11_close_55 rfl (lv_at hl 4 rfl) ?_
            refine gA_int (gA_runV (As := [.int p0]) (rest := []) (ci := 8) (q0 := 3) hx hb hml hown hg hP hD hK hS hA hnw hgk (x_innermost9 l D ks H.size ad kk V32 L Z33 p0 hMV32 (by first | exact om_03537cc23bdb r23.2 cd28.1 pq83 ((Imp.go t81 (imp_a (rgz78.1) (rgz78.2) (f123))).2) | first | omega | ((try (have i_t81 := Imp.go t81 (by omega))); (try (have i_t20 := Imp.go t20 (by omega))); (try (have i_t20 := Imp.go t20 (by omega))); (try (have i_t81 := Imp.go t81 (by omega))); omega))) w1524 w1525 w1526 w164 w1527 rfl xgStock hdV_yX8_innermost ⟨Nat.le_of_ble_eq_true rfl, Nat.le_of_ble_eq_true rfl⟩ rfl hl.1 rfl (Nat.le_of_ble_eq_true rfl) dX11_close_56 ⟨z0, z0⟩) hP hD hK hS hA (fun z127 u128 H locs w129 hP hD hK hS => ?_)
            obtain ⟨rgz127, t130⟩ := w129
            replace rgz127 : 0 ≤ z127.toInt ∧ z127.toInt ≤ 39 := rgz127
            replace t130 : z127.toInt = innC V32 (V32 3 12).toInt.toNat p0.toInt := t130
            refine lv_istore (lv' := [(5, .int z127), (4, .int y29), (3, .int y30), (2, .int y31), (0, .ref (ad 0)), (1, .int p0)]) hx hb dX11_close_59 hl (by decide) rfl (fun ls hl => ?_)
            refine lv_aload_n hx hb dX11_close_61 rfl (lv_at hl 4 rfl) ?_
            refine va_get (D := D) (ci := 11) (v := .ref (ad 3)) (fs := (xfHouse ad V32 L Z33)) (C := RX11) (T := TX11) (N := 10) hx hb hg inX11 hown hK hP 0 xgHouse rfl 3 (by decide) (hg _ w718) (fun _ h9 => h9) rfl dX11_close_62 ?_
            refine lv_iload hx hb dX11_close_65 (lv_at hl 0 rfl) ?_
            refine gA_int (gA_runV (As := [.int z127]) (rest := []) (ci := 8) (q0 := 3) hx hb hml hown hg hP hD hK hS hA hnw hgk (x_latestMade9 l D ks H.size ad kk V32 L Z33 z127 hMV32 ) w1532 w1533 w1534 w164 w1535 rfl xgStock hdV_yX8_latestMade ⟨Nat.le_of_ble_eq_true rfl, Nat.le_of_ble_eq_true rfl⟩ rfl hl.1 rfl (Nat.le_of_ble_eq_true rfl) dX11_close_67 ⟨z0, z0⟩) hP hD hK hS hA (fun z131 u132 H locs w133 hP hD hK hS => ?_)
            obtain ⟨rgz131, t134, t135⟩ := w133
            replace rgz131 : (-1) ≤ z131.toInt ∧ z131.toInt ≤ 299 := rgz131
            replace t134 : z131.toInt < (V32 3 13).toInt := t134
            replace t135 : z131.toInt = lmC V32 z127.toInt (V32 3 13).toInt.toNat := t135
            refine lv_istore (lv' := [(6, .int z131), (5, .int z127), (4, .int y29), (3, .int y30), (2, .int y31), (0, .ref (ad 0)), (1, .int p0)]) hx hb dX11_close_70 hl (by decide) rfl (fun ls hl => ?_)
            have in8 : z127.toInt = inn x8.1 (V 3 12).toInt.toNat p0.toInt := by obtain ⟨ow9, h9⟩ := rw8; have h8 := t130; rw [ns8, RWn.innT h9 ns8 dzv] at h8; exact h8
            have lm8 : lam x8.1 (inn x8.1 (V 3 12).toInt.toNat p0.toInt) = z131.toInt := by obtain ⟨ow9, h9⟩ := rw8; rw [← in8, ← RWn.lamT h9 rfl]; exact (t135).symm
            have m48 := m49
            have in7 : z127.toInt < (((V 3 12).toInt.toNat : Nat) : Int) := by rw [in8]; exact (inG_lt cd28.1 (by have h9 := cd28.2.1; omega)).2
            refine lv_iload hx hb dX11_close_72 (lv_at hl 0 rfl) ?_
            refine lv_iconst (v := (-1)) hx hb dX11_close_74 (by decide) ?_
            refine lv_icmp_eq (tgt := 111) hx hb dX11_close_75 (by decide) (fun c136 => ?_) (fun c136 => ?_)
            · skip
              have f137 : z131.toInt = (-1) := b_eq rfl (by decide) c136
              refine lv_aload_n hx hb dX11_close_111 rfl (lv_at hl 5 rfl) ?_
              refine va_get (D := D) (ci := 11) (v := .ref (ad 3)) (fs := (xfHouse ad V32 L Z33)) (C := RX11) (T := TX11) (N := 10) hx hb hg inX11 hown hK hP 0 xgHouse rfl 3 (by decide) (hg _ w718) (fun _ h9 => h9) rfl dX11_close_112 ?_
              refine lv_iload hx hb dX11_close_115 (lv_at hl 1 rfl) ?_
              refine gA_void (gA_runV (As := [.int z127]) (rest := []) (ci := 8) (q0 := 3) hx hb hml hown hg hP hD hK hS hA hnw hgk (x_shut9 l D ks H.size ad kk V32 L Z33 z127 hMV32 (by first | omega | ((try (have i_t81 := Imp.go t81 (by omega))); (try (have i_t20 := Imp.go t20 (by omega))); (try (have i_t20 := Imp.go t20 (by omega))); (try (have i_t81 := Imp.go t81 (by omega))); omega))) w1541 w1028 w1029 w164 w1030 rfl xgStock hdV_yX8_shut ⟨Nat.le_of_ble_eq_true rfl, Nat.le_of_ble_eq_true rfl⟩ rfl hl.1 rfl (Nat.le_of_ble_eq_true rfl) dX11_close_117 ⟨z0, z0⟩) hP hD hK hS hA (fun u139 H locs w140 hP hD hK hS => ?_)
              obtain ⟨V142, L143⟩ := u139
              obtain ⟨hMV142, ajV142, axL143, t141⟩ := w140
              have axL143 : L = L143 := Eq.symm axL143
              subst axL143
              replace hP : va_P D vwCl (xw ad kk V142 L Z33) H := hP
              replace hD : va_D A (xw ad kk V142 L Z33) := hD
              replace hMV142 : rgd bX V142 := hMV142
              replace ajV142 : agr [] [23, 24] V32 V142 := ajV142
              have agV142 : agr [(0, 9), (3, 13), (3, 14), (3, 15), (4, 5), (4, 6), (5, 6), (5, 7), (5, 8), (5, 9), (5, 10), (5, 11), (5, 12), (5, 13), (5, 14), (44, 0)] [23, 24, 25, 26, 27, 28, 29, 30, 31, 32, 33, 34, 35, 36, 37, 39, 40, 67, 68, 69, 70, 71, 72, 73, 74, 75, 76, 77, 78, 79, 80, 81, 82, 83, 84, 85] V V142 := agV32.tr ajV142 (by decide) (by decide)
              replace t141 : ((True) ∧ V142 = (up2 (up2 V32 23 (Int32.toNatClampNeg z127) 0) 24 (Int32.toNatClampNeg z127) 0)) := t141
              have hw144 := t141.2
              obtain ⟨V145, hV145⟩ : ∃ z, z = up2 V32 23 (Int32.toNatClampNeg z127) 0 := ⟨_, rfl⟩
              have hV142 : V142 = up2 V145 24 (Int32.toNatClampNeg z127) 0 := by rw [hw144, hV145]
              obtain ⟨z146, ez146⟩ : ∃ y : Int32, y = y29 + 1 := ⟨_, rfl⟩
              have hz146 : z146.toInt = y29.toInt + 1 := i_add ez146 rfl (by decide) (by omega)
              refine lv_iinc (v := z146) (lv' := [(4, .int z146), (6, .int z131), (5, .int z127), (3, .int y30), (2, .int y31), (0, .ref (ad 0)), (1, .int p0)]) hx hb dX11_close_120 hl (k := 2) rfl (by rw [ez146]; rfl) (by decide) rfl (fun ls hl => ?_)
              refine lv_goto (tgt := 32) hx hb dX11_close_123 (by decide) ?_
              have pq147 : (V142 44 0).toInt = ((V32 44 0)).toInt := congrArg Int32.toInt ((up2_o hV142 (by decide)).trans (up2_o hV145 (by decide)))
              have pq148 : (V142 5 6).toInt = ((V32 5 6)).toInt := congrArg Int32.toInt ((up2_o hV142 (by decide)).trans (up2_o hV145 (by decide)))
              have pq149 : (V142 5 7).toInt = ((V32 5 7)).toInt := congrArg Int32.toInt ((up2_o hV142 (by decide)).trans (up2_o hV145 (by decide)))
              have pq150 : (V142 5 8).toInt = ((V32 5 8)).toInt := congrArg Int32.toInt ((up2_o hV142 (by decide)).trans (up2_o hV145 (by decide)))
              have mq151 : MQZ V142 Z33 b := (MQZ.ag (MQZ.ag xlp34_0 (agr.up (fs := []) (cs := [23]) agr.rf hV145 rfl) (by decide) (by decide) rfl rfl rfl) (agr.up (fs := []) (cs := [24]) agr.rf hV142 rfl) (by decide) (by decide) rfl rfl rfl)
              have pq153 : (V142 3 13).toInt = ((V32 3 13)).toInt := congrArg Int32.toInt ((up2_o hV142 (by decide)).trans (up2_o hV145 (by decide)))
              have cw152 : (∃ (k8 : Nat) (x8 : CS), ((k8 : Nat) : Int) + z146.toInt ≤ 340 ∧ CLw V142 gB (V 3 12).toInt.toNat p0.toInt gy k8 x8 ∧ x8.2.1 = y31.toInt ∧ x8.2.2 = y30.toInt ∧ Imp (0 < (V142 3 13).toInt) (0 < (V 3 13).toInt)) := by
                have zs8 := CL1.s c18 (by rw [lm8]; omega)
                obtain ⟨ow9, rn9⟩ := rw8
                have ki9 := i_clamp (x := z127) rfl (by omega)
                rw [show (inn x8.1 (V 3 12).toInt.toNat p0.toInt).toNat = (Int32.toNatClampNeg z127) from by rw [← in8]; rfl] at zs8
                refine ⟨k7, z8, by omega, ⟨cl8, ⟨ow9, by rw [zs8]; exact RWn.shut rn9 (by omega) (fun x9 h9 => (up2_o hV142 (by decide)).trans (up2_k hV145 h9)) (by rw [(up2_o hV142 (by decide)).trans (up2_s hV145)]; decide) (fun x9 h9 => (up2_k hV142 h9).trans (up2_o hV145 (by decide))) (up2_s hV142) (fun c9 k9 h1 h2 _ => (up2_o hV142 h2).trans (up2_o hV145 h1))⟩, (show z8.1 0 4 = 0 from by rw [zs8]; exact (show shM x8.1 (Int32.toNatClampNeg z127) 0 4 = 0 from shM_4.trans m49))⟩, ?_, ?_, Imp.mk (fun h9 => Imp.go ob8 (by omega))⟩
                · rw [zs8]; exact sp8
                · rw [zs8]; exact ct8
              exact ihlp34 z146 y30 y31 V142 Z33 H locs ls (by first | omega | ((try (have i_t81 := Imp.go t81 (by omega))); (try (have i_t20 := Imp.go t20 (by omega))); (try (have i_t20 := Imp.go t20 (by omega))); (try (have i_t81 := Imp.go t81 (by omega))); omega)) (by first | omega | ((try (have i_t81 := Imp.go t81 (by omega))); (try (have i_t20 := Imp.go t20 (by omega))); (try (have i_t20 := Imp.go t20 (by omega))); (try (have i_t81 := Imp.go t81 (by omega))); omega)) (by first | omega | ((try (have i_t81 := Imp.go t81 (by omega))); (try (have i_t20 := Imp.go t20 (by omega))); (try (have i_t20 := Imp.go t20 (by omega))); (try (have i_t81 := Imp.go t81 (by omega))); omega)) mq151 (show (V142 44 0).toInt ≤ (V 44 0).toInt + z146.toInt from by first | omega | ((try (have i_t81 := Imp.go t81 (by omega))); (try (have i_t20 := Imp.go t20 (by omega))); (try (have i_t20 := Imp.go t20 (by omega))); (try (have i_t81 := Imp.go t81 (by omega))); omega)) (show (V142 5 6).toInt = 0 from by first | omega | ((try (have i_t81 := Imp.go t81 (by omega))); (try (have i_t20 := Imp.go t20 (by omega))); (try (have i_t20 := Imp.go t20 (by omega))); (try (have i_t81 := Imp.go t81 (by omega))); omega)) (show (V142 5 7).toInt = 0 from by first | omega | ((try (have i_t81 := Imp.go t81 (by omega))); (try (have i_t20 := Imp.go t20 (by omega))); (try (have i_t20 := Imp.go t20 (by omega))); (try (have i_t81 := Imp.go t81 (by omega))); omega)) (show (V142 5 8).toInt = 0 from by first | omega | ((try (have i_t81 := Imp.go t81 (by omega))); (try (have i_t20 := Imp.go t20 (by omega))); (try (have i_t20 := Imp.go t20 (by omega))); (try (have i_t81 := Imp.go t81 (by omega))); omega)) (show y30.toInt ≤ z146.toInt from by first | omega | ((try (have i_t81 := Imp.go t81 (by omega))); (try (have i_t20 := Imp.go t20 (by omega))); (try (have i_t20 := Imp.go t20 (by omega))); (try (have i_t81 := Imp.go t81 (by omega))); omega)) cw152 (by first | omega | ((try (have i_t81 := Imp.go t81 (by omega))); (try (have i_t20 := Imp.go t20 (by omega))); (try (have i_t20 := Imp.go t20 (by omega))); (try (have i_t81 := Imp.go t81 (by omega))); omega)) (agr.up (agr.up (agr.tr agr.rf ajV32 (by decide) (by decide)) hV145 rfl) hV142 rfl) hMV142 zoZ33 hK hP hD hS (lv_sub hl [0, 3, 4, 5, 6] rfl)
            · skip
              have f154 : z131.toInt ≠ (-1) := b_neq rfl (by decide) c136
              have mq155 : MQZ V32 Z33 b := xlp34_0
              have pq156 : (V32 43 (5 * b + 2)).toInt = ((V 43 (5 * b + 2))).toInt := congrArg Int32.toInt ((ajV32 43 (5 * b + 2) rfl).trans (ajV10 43 (5 * b + 2) rfl))
              have r157 : 0 ≤ ((V 43 (5 * b + 2))).toInt ∧ ((V 43 (5 * b + 2))).toInt ≤ ((xcap (5 * b + 2) : Nat) : Int) := hMV 43 (5 * b + 2)
              have r158 : xcap (5 * b + 2) = 24 := xcap_2
              have kcp := i_clamp (x := z131) rfl (by (first | exact om_e3b1d6ac9ce8 rgz131.1 f154 | omega))
              have hoc := mq155.1.2.2.1 (Int32.toNatClampNeg z131) (by omega)
              have h26 : 0 ≤ (V32 26 (Int32.toNatClampNeg z131)).toInt := (hMV32 26 (Int32.toNatClampNeg z131)).1
              obtain ⟨V159, hV159⟩ : ∃ z, z = up2 V32 44 0 (V32 44 0 + 1) := ⟨_, rfl⟩
              have h44 : (V32 44 0 + 1).toInt = (V32 44 0).toInt + 1 := i_add rfl rfl (by decide) (by have := i_full (V32 44 0); omega)
              have hP : va_P D vwCl (xw ad kk V159 L Z33) H := by rw [hV159, xw_44]; exact hP
              have hD : va_D A (xw ad kk V159 L Z33) := by rw [hV159, xw_44]; exact hD
              have hMV159 : rgd bX V159 := rgd_44 hMV32 hV159
              have ajV159 : agr [(44, 0)] [] V32 V159 := agr.up agr.rf hV159 rfl
              have agV159 : agr [(0, 9), (3, 13), (3, 14), (3, 15), (4, 5), (4, 6), (5, 6), (5, 7), (5, 8), (5, 9), (5, 10), (5, 11), (5, 12), (5, 13), (5, 14), (44, 0)] [23, 24, 25, 26, 27, 28, 29, 30, 31, 32, 33, 34, 35, 36, 37, 39, 40, 67, 68, 69, 70, 71, 72, 73, 74, 75, 76, 77, 78, 79, 80, 81, 82, 83, 84, 85] V V159 := agV32.tr ajV159 (by decide) (by decide)
              have e44 : (V159 44 0).toInt = (V32 44 0).toInt + 1 := by rw [hV159, up2_ss]; exact h44
              have mt160 : MT V159 Z33 b := MQZ.mt mq155 (by omega) hV159 h44 (by omega)
              refine lv_aload_n hx hb dX11_close_78 rfl (lv_at hl 5 rfl) ?_
              refine va_get (D := D) (ci := 11) (v := .ref (ad 5)) (fs := (xfHouse ad V159 L Z33)) (C := RX11) (T := TX11) (N := 10) hx hb hg inX11 hown hK hP 0 xgHouse rfl 5 (by decide) (hg _ w720) (fun _ h9 => h9) rfl dX11_close_79 ?_
              refine lv_iload hx hb dX11_close_82 (lv_at hl 0 rfl) ?_
              refine lv_iconst (v := 0) hx hb dX11_close_84 (by decide) ?_
              have r161 : Int32.toInt 0 = 0 := by decide
              have pq162 : (V159 3 13).toInt = ((V32 3 13)).toInt := congrArg Int32.toInt (up2_o hV159 (by decide))
              refine W.know (fun k164 k165 => ?_)
              obtain ⟨Hk163, hHk163⟩ : ∃ z, z = H := ⟨_, rfl⟩
              have k164 : Hk163.size ≤ s.heap.size + (zcc Z - zcc Z33) := by rw [hHk163]; exact k164
              have k165 : tot Hk163 ≤ tot s.heap + (zss Z - zss Z33) := by rw [hHk163]; exact k165
              refine gZ_void (gA_runV (As := [.int z131, .int 0]) (rest := []) (ci := 5) (q0 := 5) hx hb hml hown hg hP hD hK hS hA hnw hgk (x_pushClose9 l D ks H.size ad kk V159 L Z33 z131 0 (b) hMV159 (by first | exact om_92df152472f1 rgz131.1 rgz131.2 f154 | first | omega | ((try (have i_t81 := Imp.go t81 (by omega))); (try (have i_t20 := Imp.go t20 (by omega))); (try (have i_t20 := Imp.go t20 (by omega))); (try (have i_t81 := Imp.go t81 (by omega))); omega)) (show b < 2 from by first | exact om_f940a4667dd6 hb2 | first | omega | ((try (have i_t81 := Imp.go t81 (by omega))); (try (have i_t20 := Imp.go t20 (by omega))); (try (have i_t20 := Imp.go t20 (by omega))); (try (have i_t81 := Imp.go t81 (by omega))); omega)) mt160 (show z131.toInt < (V159 3 13).toInt from by first | exact om_ad53b8b0928c t134 pq162 | first | omega | ((try (have i_t81 := Imp.go t81 (by omega))); (try (have i_t20 := Imp.go t20 (by omega))); (try (have i_t20 := Imp.go t20 (by omega))); (try (have i_t81 := Imp.go t81 (by omega))); omega))) w1536 w1321 w1322 w171 w1323 rfl xgMachine hdV_yX5_pushClose ⟨Nat.le_of_ble_eq_true rfl, Nat.le_of_ble_eq_true rfl⟩ rfl hl.1 rfl (Nat.le_of_ble_eq_true rfl) dX11_close_85 ⟨z1 zoZ33.1, z1 zoZ33.2.1⟩) hD hS hA (fun u167 H locs w168 hP hD hK hS y169 y170 => ?_)
              obtain ⟨V171, L172, Z173⟩ := u167
              obtain ⟨hMV171, ajV171, axL172, zlZ173, t175, t176⟩ := w168
              have axL172 : L = L172 := Eq.symm axL172
              subst axL172
              replace hP : va_P D vwCl (xw ad kk V171 L Z173) H := hP
              replace hD : va_D A (xw ad kk V171 L Z173) := hD
              replace hK : va_K D vwCl (xty kk Z173) s := hK
              replace hMV171 : rgd bX V171 := hMV171
              replace ajV171 : agr [(5, 6), (5, 9)] [67, 68, 69, 70, 71, 72, 73, 74, 75, 76, 77, 78, 79, 80, 81, 82, 83, 84, 85] V159 V171 := ajV171
              have agV171 : agr [(0, 9), (3, 13), (3, 14), (3, 15), (4, 5), (4, 6), (5, 6), (5, 7), (5, 8), (5, 9), (5, 10), (5, 11), (5, 12), (5, 13), (5, 14), (44, 0)] [23, 24, 25, 26, 27, 28, 29, 30, 31, 32, 33, 34, 35, 36, 37, 39, 40, 67, 68, 69, 70, 71, 72, 73, 74, 75, 76, 77, 78, 79, 80, 81, 82, 83, 84, 85] V V171 := agV159.tr ajV171 (by decide) (by decide)
              replace zlZ173 : ZL Z33 Z173 := zlZ173
              have zoZ173 : ZL Z Z173 := ZL.tr zoZ33 zlZ173
              have ziZ173 := zlZ173.1
              have zjZ173 := zlZ173.2.1
              have zkZ173 := zlZ173.2.2.1
              have zmZ173 := zoZ173.1
              have znZ173 := zoZ173.2.1
              have zpZ33_Z173 := zoZ33.1
              have zqZ33_Z173 := zoZ33.2.1
              have y169 : H.size ≤ Hk163.size + (zcc Z33 - zcc Z173) := by rw [hHk163]; exact y169
              have y170 : tot H ≤ tot Hk163 + (zss Z33 - zss Z173) := by rw [hHk163]; exact y170
              refine W.tight (k := zcc Z - zcc Z173) (n := zss Z - zss Z173) (by first | exact tg9 y169 k164 zlZ173.1 zoZ33.1 | omega) (by first | exact tg9 y170 k165 zlZ173.2.1 zoZ33.2.1 | omega) ?_
              replace t175 : MJ V171 Z173 b := t175
              replace t176 : Imp ((V159 5 6).toInt < 400) (PCl V159 V171 ((V159 5 6).toInt.toNat) z131 0) := t176
              have pq177 : (V159 5 6).toInt = ((V32 5 6)).toInt := congrArg Int32.toInt (up2_o hV159 (by decide))
              have pq178 : (V159 5 7).toInt = ((V32 5 7)).toInt := congrArg Int32.toInt (up2_o hV159 (by decide))
              have pq179 : (V159 5 8).toInt = ((V32 5 8)).toInt := congrArg Int32.toInt (up2_o hV159 (by decide))
              have obp8 : 0 < (V 3 13).toInt := Imp.go ob8 (by omega)
              obtain ⟨m8, a8, tr8, m48, ze8⟩ := CL1.o c18 (by rw [lm8]; omega)
              rw [lm8] at tr8
              have rwb8 : ∃ ow, RWn V159 ow gB (mZ x8.1) := by obtain ⟨ow9, h9⟩ := rw8; exact ⟨ow9, RWn.z (RWn.es h9 (ESw.ag (show agr [] [44] V32 V159 from (agr.up agr.rf hV159 rfl)) (by decide)))⟩
              have dp8 : (V159 5 6).toInt = 0 := (by omega)
              have tp8 : (V159 5 7).toInt = 0 := (by omega)
              have mc8 : (V159 5 8).toInt = 0 := (by omega)
              have pr9 := Imp.go t176 (by (first | exact om_8fc90139ca43 xlp34_2 pq177 | omega))
              rw [show (V159 5 6).toInt.toNat = 0 from by omega] at pr9
              have rwx9 : RW V171 gB (mZ x8.1, 0, [Fclo0 0 z131.toInt (x8.1 1 z131.toInt.toNat) (x8.1 2 z131.toInt.toNat)]) := by
                have h9 := RW.clo0 rwb8 (ESw.ag (show agr [(5, 6), (5, 9)] [67, 68, 69, 70, 71, 72, 73, 74, 75, 76, 77, 78, 79, 80, 81, 82, 83, 84, 85] V159 V171 from (agr.tr agr.rf ajV171 (by decide) (by decide))) (by decide)) pr9 dp8 tp8 (ajV171 5 7 rfl) mc8 (show mZ x8.1 0 4 = 0 from by rw [mZ_4 (by decide)]; exact m49) mZ_6 (by (first | exact om_e3b1d6ac9ce8 rgz131.1 f154 | omega)) (by (first | exact om_ad53b8b0928c t134 pq162 | omega))
                rw [mZ_o (by decide), mZ_o (by decide)] at h9
                exact h9
              have pq180 : (V159 5 13).toInt = ((V32 5 13)).toInt := congrArg Int32.toInt (up2_o hV159 (by decide))
              have r181 : 0 ≤ ((V32 5 13)).toInt ∧ ((V32 5 13)).toInt ≤ 3000 := hMV32 5 13
              have st8 : mZ x8.1 0 1 = (V159 5 13).toInt := by obtain ⟨ow9, h9⟩ := rwb8; exact h9.1.1.2.1.symm
              have sb8 : 0 ≤ (V159 5 13).toInt ∧ (V159 5 13).toInt ≤ 3000 := hMV159 5 13
              refine lv_aload_n hx hb dX11_close_88 rfl (lv_at hl 5 rfl) ?_
              refine va_get (D := D) (ci := 11) (v := .ref (ad 5)) (fs := (xfHouse ad V171 L Z173)) (C := RX11) (T := TX11) (N := 10) hx hb hg inX11 hown hK hP 0 xgHouse rfl 5 (by decide) (hg _ w720) (fun _ h9 => h9) rfl dX11_close_89 ?_
              have bc182 : BKc V171 b gB := BKc.b4 bc (agr.b4 (show agr [(0, 9), (3, 13), (3, 14), (3, 15), (4, 5), (4, 6), (5, 6), (5, 7), (5, 8), (5, 9), (5, 10), (5, 11), (5, 12), (5, 13), (5, 14), (44, 0)] [23, 24, 25, 26, 27, 28, 29, 30, 31, 32, 33, 34, 35, 36, 37, 39, 40, 44, 67, 68, 69, 70, 71, 72, 73, 74, 75, 76, 77, 78, 79, 80, 81, 82, 83, 84, 85] V V171 from (agr.tr (agr.up (agr.tr (agr.tr agr.rf ajV10 (by decide) (by decide)) ajV32 (by decide) (by decide)) hV159 rfl) ajV171 (by decide) (by decide))) (by decide))
              refine W.know (fun k184 k185 => ?_)
              obtain ⟨Hk183, hHk183⟩ : ∃ z, z = H := ⟨_, rfl⟩
              have k184 : Hk183.size ≤ s.heap.size + (zcc Z - zcc Z173) := by rw [hHk183]; exact k184
              have k185 : tot Hk183 ≤ tot s.heap + (zss Z - zss Z173) := by rw [hHk183]; exact k185
              refine gZ_void (gA_runV (As := []) (rest := []) (ci := 5) (q0 := 5) hx hb hml hown hg hP hD hK hS hA hnw hgk (x_run9 l D ks H.size ad kk V171 L Z173 (b) (gB) ((mZ x8.1, 0, [Fclo0 0 z131.toInt (x8.1 1 z131.toInt.toNat) (x8.1 2 z131.toInt.toNat)])) hMV171 (show b < 2 from by first | exact om_f940a4667dd6 hb2 | first | omega | ((try (have i_t81 := Imp.go t81 (by omega))); (try (have i_t20 := Imp.go t20 (by omega))); (try (have i_t20 := Imp.go t20 (by omega))); (try (have i_t81 := Imp.go t81 (by omega))); omega)) t175 rwx9 bc182 (Or.inr ⟨_, tr8, rfl⟩) (PHI.b17 (by omega) (by omega) (show mZ x8.1 0 4 = 0 from by rw [mZ_4 (by decide)]; exact m49)) (wfo obp8)) w1247 w1248 w1249 w171 w1250 rfl xgMachine hdV_yX5_run ⟨Nat.le_of_ble_eq_true rfl, Nat.le_of_ble_eq_true rfl⟩ rfl hl.1 rfl (Nat.le_of_ble_eq_true rfl) dX11_close_92 ⟨z1 zoZ173.1, z1 zoZ173.2.1⟩) hD hS hA (fun u187 H locs w188 hP hD hK hS y189 y190 => ?_)
              obtain ⟨V191, L192, Z193⟩ := u187
              obtain ⟨hMV191, ajV191, axL192, zlZ193, t195, t196⟩ := w188
              have axL192 : L = L192 := Eq.symm axL192
              subst axL192
              replace hP : va_P D vwCl (xw ad kk V191 L Z193) H := hP
              replace hD : va_D A (xw ad kk V191 L Z193) := hD
              replace hK : va_K D vwCl (xty kk Z193) s := hK
              replace hMV191 : rgd bX V191 := hMV191
              replace ajV191 : agr [(3, 13), (3, 14), (3, 15), (4, 5), (4, 6), (5, 6), (5, 7), (5, 8), (5, 9), (5, 10), (5, 11), (5, 12), (5, 13), (5, 14)] [24, 25, 26, 27, 28, 29, 30, 31, 32, 33, 34, 35, 36, 37, 39, 40, 67, 68, 69, 70, 71, 72, 73, 74, 75, 76, 77, 78, 79, 80, 81, 82, 83, 84, 85] V171 V191 := ajV191
              have agV191 : agr [(0, 9), (3, 13), (3, 14), (3, 15), (4, 5), (4, 6), (5, 6), (5, 7), (5, 8), (5, 9), (5, 10), (5, 11), (5, 12), (5, 13), (5, 14), (44, 0)] [23, 24, 25, 26, 27, 28, 29, 30, 31, 32, 33, 34, 35, 36, 37, 39, 40, 67, 68, 69, 70, 71, 72, 73, 74, 75, 76, 77, 78, 79, 80, 81, 82, 83, 84, 85] V V191 := agV171.tr ajV191 (by decide) (by decide)
              replace zlZ193 : ZL Z173 Z193 := zlZ193
              have zoZ193 : ZL Z Z193 := ZL.tr zoZ173 zlZ193
              have ziZ193 := zlZ193.1
              have zjZ193 := zlZ193.2.1
              have zkZ193 := zlZ193.2.2.1
              have zmZ193 := zoZ193.1
              have znZ193 := zoZ193.2.1
              have zpZ173_Z193 := zoZ173.1
              have zqZ173_Z193 := zoZ173.2.1
              have y189 : H.size ≤ Hk183.size + (zcc Z173 - zcc Z193) := by rw [hHk183]; exact y189
              have y190 : tot H ≤ tot Hk183 + (zss Z173 - zss Z193) := by rw [hHk183]; exact y190
              refine W.tight (k := zcc Z - zcc Z193) (n := zss Z - zss Z193) (by first | exact tg9 y189 k184 zlZ193.1 zoZ173.1 | omega) (by first | exact tg9 y190 k185 zlZ193.2.1 zoZ173.2.1 | omega) ?_
              replace t195 : MJ V191 Z193 b := t195
              replace t196 : ∃ n, (rnM gB n (mZ x8.1, 0, [Fclo0 0 z131.toInt (x8.1 1 z131.toInt.toNat) (x8.1 2 z131.toInt.toNat)])).2.2 = [] ∧ RW V191 gB (rnM gB n (mZ x8.1, 0, [Fclo0 0 z131.toInt (x8.1 1 z131.toInt.toNat) (x8.1 2 z131.toInt.toNat)])) := t196
              obtain ⟨n9, ed9, rw9⟩ := t196
              obtain ⟨n8, en8, _⟩ := tr8
              have ee9 := rn_end ed9 (show (rnM gB n8 (mZ x8.1, 0, [Fclo0 0 z131.toInt (x8.1 1 z131.toInt.toNat) (x8.1 2 z131.toInt.toNat)])).2.2 = [] from by rw [en8])
              rw [en8] at ee9
              rw [ee9] at rw9
              obtain ⟨ow9, rn9⟩ := rw9.1
              have rh9 : (V191 5 9).toInt = m8 0 6 := rw9.2.1.1
              have de9 : (V191 5 6).toInt = 0 := rw9.2.2.1
              have te9 : (V191 5 7).toInt = 0 := by obtain ⟨tw9, h1, h2⟩ := rw9.2.2.2; have h3 : tw9 = 0 := h2; omega
              have me9 : (V191 5 8).toInt = 0 := by have h9 : (V191 5 8).toInt = m8 0 4 := rw9.2.1.2.2.2.1; omega
              refine lv_iload_n hx hb dX11_close_95 rfl (lv_at hl 4 rfl) ?_
              refine lv_aload_n hx hb dX11_close_96 rfl (lv_at hl 5 rfl) ?_
              refine va_get (D := D) (ci := 11) (v := .ref (ad 5)) (fs := (xfHouse ad V191 L Z193)) (C := RX11) (T := TX11) (N := 10) hx hb hg inX11 hown hK hP 0 xgHouse rfl 5 (by decide) (hg _ w720) (fun _ h9 => h9) rfl dX11_close_97 ?_
              refine gA_int (gA_runV (As := []) (rest := [.int y31]) (ci := 5) (q0 := 5) hx hb hml hown hg hP hD hK hS hA hnw hgk (x_isSpent9 l D ks H.size ad kk V191 L Z193  hMV191 ) w1537 w1538 w1539 w171 w1540 rfl xgMachine hdV_yX5_isSpent ⟨Nat.le_of_ble_eq_true rfl, Nat.le_of_ble_eq_true rfl⟩ rfl hl.1 rfl (Nat.le_of_ble_eq_true rfl) dX11_close_100 ⟨z0, z0⟩) hP hD hK hS hA (fun z197 u198 H locs w199 hP hD hK hS => ?_)
              obtain ⟨rgz197, t200⟩ := w199
              replace rgz197 : 0 ≤ z197.toInt ∧ z197.toInt ≤ 1 := rgz197
              replace t200 : (z197.toInt = 1 ∧ (V191 5 9).toInt = 3) ∨ (z197.toInt = 0 ∧ (V191 5 9).toInt ≠ 3) := t200
              have r201 : 0 ≤ ((V191 5 9)).toInt ∧ ((V191 5 9)).toInt ≤ 3 := hMV191 5 9
              refine lv_ior hx hb dX11_close_103 ?_
              refine lv_topi (fun z202 ez202 => ?_)
              have hz202 : 0 ≤ z202.toInt ∧ z202.toInt < 16777216 := or24 ez202 (by first | omega | ((try (have i_t81 := Imp.go t81 (by omega))); (try (have i_t20 := Imp.go t20 (by omega))); (try (have i_t20 := Imp.go t20 (by omega))); (try (have i_t81 := Imp.go t81 (by omega))); omega)) (by first | omega | ((try (have i_t81 := Imp.go t81 (by omega))); (try (have i_t20 := Imp.go t20 (by omega))); (try (have i_t20 := Imp.go t20 (by omega))); (try (have i_t81 := Imp.go t81 (by omega))); omega))
              have hq9 := or01 ez202 (by omega) (by omega)
              refine lv_istore_n (lv' := [(2, .int z202), (6, .int z131), (5, .int z127), (4, .int y29), (3, .int y30), (0, .ref (ad 0)), (1, .int p0)]) hx hb dX11_close_104 rfl hl (by decide) rfl (fun ls hl => ?_)
              obtain ⟨z203, ez203⟩ : ∃ y : Int32, y = y30 + 1 := ⟨_, rfl⟩
              have hz203 : z203.toInt = y30.toInt + 1 := i_add ez203 rfl (by decide) (by (first | exact om_91825ce4ac29 klp34_1.1 xlp34_5 f77 | omega))
              refine lv_iinc (v := z203) (lv' := [(3, .int z203), (2, .int z202), (6, .int z131), (5, .int z127), (4, .int y29), (0, .ref (ad 0)), (1, .int p0)]) hx hb dX11_close_105 hl (k := 4) rfl (by rw [ez203]; rfl) (by decide) rfl (fun ls hl => ?_)
              refine lv_goto (tgt := 120) hx hb dX11_close_108 (by decide) ?_
              obtain ⟨z204, ez204⟩ : ∃ y : Int32, y = y29 + 1 := ⟨_, rfl⟩
              have hz204 : z204.toInt = y29.toInt + 1 := i_add ez204 rfl (by decide) (by (first | exact om_7390990253c3 klp34_1.1 xlp34_5 f77 | omega))
              refine lv_iinc (v := z204) (lv' := [(4, .int z204), (3, .int z203), (2, .int z202), (6, .int z131), (5, .int z127), (0, .ref (ad 0)), (1, .int p0)]) hx hb dX11_close_120 hl (k := 4) rfl (by rw [ez204]; rfl) (by decide) rfl (fun ls hl => ?_)
              refine lv_goto (tgt := 32) hx hb dX11_close_123 (by decide) ?_
              have pq205 : (V191 44 0).toInt = ((V32 44 0 + 1)).toInt := congrArg Int32.toInt ((ajV191 44 0 rfl).trans ((ajV171 44 0 rfl).trans (up2_s hV159)))
              have r206 : 0 ≤ ((V191 5 6)).toInt ∧ ((V191 5 6)).toInt ≤ 400 := hMV191 5 6
              have r207 : 0 ≤ ((V191 5 7)).toInt ∧ ((V191 5 7)).toInt ≤ 2048 := hMV191 5 7
              have r208 : 0 ≤ ((V191 5 8)).toInt ∧ ((V191 5 8)).toInt ≤ 300 := hMV191 5 8
              have mq209 : MQZ V191 Z193 b := (⟨MJ.hi t195, Or.inr t195⟩ : MQZ V191 Z193 b)
              have cw210 : (∃ (k8 : Nat) (x8 : CS), ((k8 : Nat) : Int) + z204.toInt ≤ 340 ∧ CLw V191 gB (V 3 12).toInt.toNat p0.toInt gy k8 x8 ∧ x8.2.1 = z202.toInt ∧ x8.2.2 = z203.toInt ∧ Imp (0 < (V191 3 13).toInt) (0 < (V 3 13).toInt)) := by
                refine ⟨k7, z8, by omega, ⟨cl8, ⟨ow9, by rw [ze8]; exact RWn.z (RWn.es rn9 ESw.rf)⟩, by rw [ze8]; show mZ m8 0 4 = 0; rw [mZ_4 (by decide)]; exact m48⟩, ?_, ?_, Imp.mk (fun _ => obp8)⟩
                · rw [ze8]; show (if m8 0 6 = 3 then (1 : Int) else x8.2.1) = _; split <;> omega
                · rw [ze8]; show x8.2.2 + 1 = _; omega
              exact ihlp34 z204 z203 z202 V191 Z193 H locs ls (by first | exact om_3643addc7216 klp34_1.1 xlp34_5 f77 hz204 | first | omega | ((try (have i_t81 := Imp.go t81 (by omega))); (try (have i_t20 := Imp.go t20 (by omega))); (try (have i_t20 := Imp.go t20 (by omega))); (try (have i_t81 := Imp.go t81 (by omega))); omega)) (by first | exact om_dfde37a47f88 klp34_1.1 xlp34_5 f77 hz203 | first | omega | ((try (have i_t81 := Imp.go t81 (by omega))); (try (have i_t20 := Imp.go t20 (by omega))); (try (have i_t20 := Imp.go t20 (by omega))); (try (have i_t81 := Imp.go t81 (by omega))); omega)) (by first | omega | ((try (have i_t81 := Imp.go t81 (by omega))); (try (have i_t20 := Imp.go t20 (by omega))); (try (have i_t20 := Imp.go t20 (by omega))); (try (have i_t81 := Imp.go t81 (by omega))); omega)) mq209 (show (V191 44 0).toInt ≤ (V 44 0).toInt + z204.toInt from by first | exact om_23f5d950775b xlp34_1 h44 hz204 pq205 | first | omega | ((try (have i_t81 := Imp.go t81 (by omega))); (try (have i_t20 := Imp.go t20 (by omega))); (try (have i_t20 := Imp.go t20 (by omega))); (try (have i_t81 := Imp.go t81 (by omega))); omega)) (show (V191 5 6).toInt = 0 from by first | exact om_b66ba74381d5 de9 | first | omega | ((try (have i_t81 := Imp.go t81 (by omega))); (try (have i_t20 := Imp.go t20 (by omega))); (try (have i_t20 := Imp.go t20 (by omega))); (try (have i_t81 := Imp.go t81 (by omega))); omega)) (show (V191 5 7).toInt = 0 from by first | exact om_b66ba74381d5 te9 | first | omega | ((try (have i_t81 := Imp.go t81 (by omega))); (try (have i_t20 := Imp.go t20 (by omega))); (try (have i_t20 := Imp.go t20 (by omega))); (try (have i_t81 := Imp.go t81 (by omega))); omega)) (show (V191 5 8).toInt = 0 from by first | exact om_b66ba74381d5 me9 | first | omega | ((try (have i_t81 := Imp.go t81 (by omega))); (try (have i_t20 := Imp.go t20 (by omega))); (try (have i_t20 := Imp.go t20 (by omega))); (try (have i_t81 := Imp.go t81 (by omega))); omega)) (show z203.toInt ≤ z204.toInt from by first | exact om_953ed16b636a xlp34_5 hz203 hz204 | first | omega | ((try (have i_t81 := Imp.go t81 (by omega))); (try (have i_t20 := Imp.go t20 (by omega))); (try (have i_t20 := Imp.go t20 (by omega))); (try (have i_t81 := Imp.go t81 (by omega))); omega)) cw210 (by first | exact om_8a6183599dcf hn hz204 | first | omega | ((try (have i_t81 := Imp.go t81 (by omega))); (try (have i_t20 := Imp.go t20 (by omega))); (try (have i_t20 := Imp.go t20 (by omega))); (try (have i_t81 := Imp.go t81 (by omega))); omega)) (agr.tr (agr.tr (agr.up (agr.tr agr.rf ajV32 (by decide) (by decide)) hV159 rfl) ajV171 (by decide) (by decide)) ajV191 (by decide) (by decide)) hMV191 zoZ193 hK hP hD hS (lv_sub hl [0, 1, 2, 5, 6] rfl)
    have r211 : Int32.toInt 0 = 0 := by decide
    have pq212 : (V10 44 0).toInt = ((V 44 0)).toInt := congrArg Int32.toInt (ajV10 44 0 rfl)
    have hi213 : HI V10 Z b := (HI.ag hi ajV10 (by decide))
    have mq214 : MQZ V10 Z b := (⟨hi213, Or.inl (by omega)⟩ : MQZ V10 Z b)
    have pq216 : (V10 3 13).toInt = ((V 3 13)).toInt := congrArg Int32.toInt (ajV10 3 13 rfl)
    have r217 : 0 ≤ ((V 3 13)).toInt ∧ ((V 3 13)).toInt ≤ 300 := hMV 3 13
    have cw215 : (∃ (k8 : Nat) (x8 : CS), ((k8 : Nat) : Int) + (Int32.toInt 0) ≤ 340 ∧ CLw V10 gB (V 3 12).toInt.toNat p0.toInt gy k8 x8 ∧ x8.2.1 = (Int32.toInt 0) ∧ x8.2.2 = (Int32.toInt 0) ∧ Imp (0 < (V10 3 13).toInt) (0 < (V 3 13).toInt)) := ⟨gj, (mU gm 0 1 0, 0, 0), by have h9 : Int32.toInt 0 = 0 := (by decide); have h8 := cz9.2.1; omega, ⟨cz9.1, rn0, (show mU gm 0 1 0 0 4 = 0 from by rw [mU_o _ _ (by omega)]; exact g46.1)⟩, (show (0 : Int) = Int32.toInt 0 by decide), (show (0 : Int) = Int32.toInt 0 by decide), Imp.mk (fun h9 => by omega)⟩
    exact lp34 ((340 - (Int32.toInt 0) + 1 : Int).toNat) 0 0 0 V10 Z H locs ls (by decide) (by decide) (by decide) mq214 (show (V10 44 0).toInt ≤ (V 44 0).toInt + (Int32.toInt 0) from by first | exact om_4c3fb6bc78c8 r211 pq212 | first | omega | ((try (have i_t20 := Imp.go t20 (by omega))); omega)) (show (V10 5 6).toInt = 0 from by first | exact om_b66ba74381d5 t5 | first | omega | ((try (have i_t20 := Imp.go t20 (by omega))); omega)) (show (V10 5 7).toInt = 0 from by first | exact om_b66ba74381d5 t6 | first | omega | ((try (have i_t20 := Imp.go t20 (by omega))); omega)) (show (V10 5 8).toInt = 0 from by first | exact om_b66ba74381d5 t7 | first | omega | ((try (have i_t20 := Imp.go t20 (by omega))); omega)) (show (Int32.toInt 0) ≤ (Int32.toInt 0) from by first | exact om_5977f3d8a10f | first | omega | ((try (have i_t20 := Imp.go t20 (by omega))); omega)) cw215 (by first | exact om_3b52b5c92499 | first | omega | ((try (have i_t20 := Imp.go t20 (by omega))); omega)) agr.rf hMV10 zoZ hK hP hD hS (lv_sub hl [0, 1, 2, 3, 4] rfl)
  · skip
    have f218 : z17.toInt = 0 := b_eq rfl (by decide) c24
    refine lv_aload_n hx hb dX11_close_18 rfl (lv_at hl 0 rfl) ?_
    refine lv_iconst (v := 3) hx hb dX11_close_19 (by decide) ?_
    refine lv_iconst (v := (-1)) hx hb dX11_close_20 (by decide) ?_
    have r219 : Int32.toInt 3 = 3 := by decide
    have r220 : Int32.toInt (-1) = (-1) := by decide
    refine gA_int (gA_runV (As := [.int 3, .int (-1)]) (rest := []) (ci := 11) (q0 := 0) hx hb hml hown hg hP hD hK hS hA hnw hgk (x_ends9 l D ks H.size ad kk V10 L Z 3 (-1) hMV10 ) w1171 w1173 w42 w156 w1174 rfl xgHouse hdV_yX11_ends ⟨Nat.le_of_ble_eq_true rfl, Nat.le_of_ble_eq_true rfl⟩ rfl hl.1 rfl (Nat.le_of_ble_eq_true rfl) dX11_close_21 ⟨z0, z0⟩) hP hD hK hS hA (fun z221 u222 H locs w223 hP hD hK hS => ?_)
    obtain ⟨V225, L226⟩ := u222
    obtain ⟨hMV225, ajV225, axL226, t224⟩ := w223
    have axL226 : L = L226 := Eq.symm axL226
    subst axL226
    replace hP : va_P D vwCl (xw ad kk V225 L Z) H := hP
    replace hD : va_D A (xw ad kk V225 L Z) := hD
    replace hMV225 : rgd bX V225 := hMV225
    replace ajV225 : agr [(0, 9)] [] V10 V225 := ajV225
    have agV225 : agr [(0, 9), (3, 13), (3, 14), (3, 15), (4, 5), (4, 6), (5, 6), (5, 7), (5, 8), (5, 9), (5, 10), (5, 11), (5, 12), (5, 13), (5, 14), (44, 0)] [23, 24, 25, 26, 27, 28, 29, 30, 31, 32, 33, 34, 35, 36, 37, 39, 40, 67, 68, 69, 70, 71, 72, 73, 74, 75, 76, 77, 78, 79, 80, 81, 82, 83, 84, 85] V V225 := agV10.tr ajV225 (by decide) (by decide)
    replace t224 : z221.toInt = (Int32.toInt (-1)) := t224
    have pq227 : (V225 44 0).toInt = ((V 44 0)).toInt := congrArg Int32.toInt ((ajV225 44 0 rfl).trans (ajV10 44 0 rfl))
    have hi228 : HI V225 Z b := (HI.ag (HI.ag hi ajV10 (by decide)) ajV225 (by decide))
    have pq229 : (V10 23 (Int32.toNatClampNeg p0)).toInt = ((V 23 (Int32.toNatClampNeg p0))).toInt := congrArg Int32.toInt (ajV10 23 (Int32.toNatClampNeg p0) rfl)
    have r230 : 0 ≤ ((V 23 (Int32.toNatClampNeg p0))).toInt ∧ ((V 23 (Int32.toNatClampNeg p0))).toInt ≤ 1 := hMV 23 (Int32.toNatClampNeg p0)
    have rn231 : ∃ ow, RWn V225 ow gB (mU gm 0 1 0) := by obtain ⟨ow, h9⟩ := rn0; exact ⟨ow, RWn.es h9 (ESw.ag (show agr [(0, 9)] [] V10 V225 from (agr.tr agr.rf ajV225 (by decide) (by decide))) (by decide))⟩
    have pq232 : (V225 4 7).toInt = ((V 4 7)).toInt := congrArg Int32.toInt ((ajV225 4 7 rfl).trans (ajV10 4 7 rfl))
    have pq233 : (V225 4 8).toInt = ((V 4 8)).toInt := congrArg Int32.toInt ((ajV225 4 8 rfl).trans (ajV10 4 8 rfl))
    refine W.know (fun kr1 kr2 => ?_)
    refine W.widen (k := zcc Z) (n := zss Z) (Nat.sub_le _ _) (Nat.sub_le _ _) ?_
    exact W.iret (v := z221) hx hb hr (fun t ht hW => ⟨⟨z221, (V225, L, Z), rfl, ⟨hMV225, agV225, rfl, zoZ, hi228, (show (V225 44 0).toInt ≤ (V 44 0).toInt + 340 from by first | exact om_d7c9b3cd7334 pq227 | first | omega | ((try (have i_t20 := Imp.go t20 (by omega))); omega)), (fun h9 => by have h1 := h9.1; have h2 := h9.2.1; have h3 := h9.2.2; exfalso; omega), (fun _ => ⟨by omega, rn231⟩), ⟨by omega, by omega⟩⟩, ⟨by rw [ht]; exact hP, va_K.moved hW.alike hK, hD⟩, by rw [ht]; exact kr1, by rw [ht]; exact kr2⟩, hS.F ht⟩) hS.2.2 dX11_close_24
