/-- the last row gets a credit -/
theorem sm_last {g : Nat → Nat} (m : Nat) : ∀ n, sm (fun i => if i + 1 = m then g i + 1 else g i) n ≤ sm g n + (if m < n + 1 then 1 else 0)
  | 0 => Nat.zero_le _
  | n + 1 => by
    have ih := sm_last (g := g) m n
    show sm (fun i => if i + 1 = m then g i + 1 else g i) n + (if n + 1 = m then g n + 1 else g n) ≤ sm g n + g n + _
    by_cases h : n + 1 = m
    · rw [if_pos h, if_pos (by omega)]
      rw [if_neg (by omega)] at ih
      omega
    · rw [if_neg h]
      by_cases h2 : m < n + 1
      · rw [if_pos h2] at ih
        rw [if_pos (by omega)]
        omega
      · rw [if_neg h2] at ih
        rw [if_neg (by omega)]
        omega
theorem MI.lastb {V : Vf} {Z : XZ} {b n r : Nat} {g : Nat → Nat} {w v u : Prop} (h : MI V Z b g n r w v u) (hr : 1 ≤ r) : MI V Z b (fun i => if i + 1 = n then g i + 1 else g i) n (r - 1) w True u := by
  refine ⟨h.sl, h.nf, h.dn, h.sz, h.oc, h.md, h.mk2, ?_, h.o0, ?_, h.tx, h.cd, h.mb, h.ln, h.pt⟩
  · intro i hi
    show FK V b (if i + 1 = n then g i + 1 else g i) i (i + 1 < n ∨ w) (vI V n True u i)
    have f := h.fk i hi
    by_cases e : i + 1 = n
    · rw [if_pos e]
      have f2 := f.w (y := g i + 1) (w' := i + 1 < n ∨ w) (v' := False) id False.elim (Nat.le_succ _)
      exact ⟨f2.1, f2.2.1, f2.2.2.1, f2.2.2.2.1, f2.2.2.2.2.1, f2.2.2.2.2.2.1, f2.2.2.2.2.2.2.1, f2.2.2.2.2.2.2.2.1, f2.2.2.2.2.2.2.2.2.1, fun _ _ _ => Nat.succ_le_succ (Nat.zero_le _)⟩
    · rw [if_neg e]
      exact f.w id (fun z => z.elim Or.inl (fun a => absurd a.1 e)) (Nat.le_refl _)
  · have p := h.pot
    have s := sm_last (g := g) n n
    have : (if n < n + 1 then 1 else 0) = 1 := if_pos (by omega)
    omega
/-- fewer are held as made: the top frame is a root; what is left over may go to the one below -/
theorem MO.mcnt {V W : Vf} {Z : XZ} {b d : Nat} {w v u w' v' u' : Prop} {y : Int32} (h : MO V Z b d w v u) (hk : (V 67 d).toInt = 0) (e : W = up2 V 5 8 y) (h1 : (V 80 d).toInt ≤ y.toInt) (h2 : y.toInt ≤ (V 5 8).toInt) (h3 : 0 ≤ y.toInt) (q3 : u' → u ∨ y.toInt + 1 ≤ (V 5 8).toInt) : MO W Z b d w' v' u' := by
  obtain ⟨g, r, x, h0, hx, hF, hm⟩ := h
  have o : ∀ c k, ¬ (c = 5 ∧ k = 8) → W c k = V c k := fun c k q => by rw [e]; exact up2_pl q
  have e8 : W 5 8 = y := up2_s e
  have hB : BE V W := fun c k a1 a2 => o c k (by omega)
  have e43 : W 43 (5 * b + 2) = V 43 (5 * b + 2) := o _ _ (by omega)
  have e13 : W 3 13 = V 3 13 := o _ _ (by omega)
  have o0 := h0.o0
  have nf : FK W b x d w' v' := FK.k0 (by rw [o 67 d (by omega)]; exact hk) (by rw [o 80 d (by omega), e8]; exact h1)
  have key : MI W Z b g d (r + ((V 5 8).toInt - y.toInt).toNat) True ((V 67 d).toInt ≠ 0 ∨ u) True := by
    refine ⟨?_, h0.nf, h0.dn, by rw [e43]; exact h0.sz, ?_, ?_, ?_, ?_, by rw [e13, o 3 15 (by omega), e8]; exact ⟨o0.1, o0.2.1, h3⟩, ?_, h0.tx.be hB, h0.cd.be hB, by rw [o 5 5 (by omega)]; exact h0.mb, h0.ln, ?_⟩
    · unfold SL
      rw [o 3 15 (by omega), e13]
      exact ⟨h0.sl.1, h0.sl.2.1, fun o' k a1 a2 => by rw [o 30 _ (by omega)]; exact h0.sl.2.2.1 o' k a1 a2, fun i a1 => by rw [o 32 _ (by omega)]; exact h0.sl.2.2.2 i a1⟩
    · intro i hi
      rw [e13] at hi
      rw [o 26 _ (by omega), e43]
      exact h0.oc i hi
    · intro i hi
      rw [e8] at hi
      rw [o 40 _ (by omega), e13]
      exact h0.md i (by omega)
    · intro i j a1 a2
      rw [o 67 i (by omega), o 67 j (by omega), o 80 i (by omega), o 80 j (by omega)]
      exact h0.mk2 i j a1 a2
    · intro i hi
      have f := h0.fk i hi
      have ev : vI W d ((V 67 d).toInt ≠ 0 ∨ u) True i = vI V d ((V 67 d).toInt ≠ 0 ∨ u) True i := by unfold vI; rw [o 67 (d - 1) (by omega)]
      rw [ev]
      unfold FK at f ⊢
      rw [o 67 i (by omega), o 68 i (by omega), o 70 i (by omega), o 71 i (by omega), o 75 i (by omega), o 76 i (by omega), o 80 i (by omega), o 84 i (by omega), e43, o 42 b (by omega), o 41 b (by omega), e13, hB.bd, e8]
      refine ⟨f.1, f.2.1, f.2.2.1, f.2.2.2.1, f.2.2.2.2.1, f.2.2.2.2.2.1, fun k => ?_, f.2.2.2.2.2.2.2⟩
      have := hm hk i hi k
      omega
    · have p := h0.pot
      rw [o 3 15 (by omega), e13, e8, o 44 0 (by omega)]
      omega
    · intro k hk'
      rw [o 25 _ (by omega), e13]
      refine ⟨(h0.pt k hk').1, fun o' h1' => ?_⟩
      rw [o 26 _ (by omega)]
      exact (h0.pt k hk').2 o' h1'
  have hm' : (W 67 d).toInt = 0 → ∀ i, i < d → (W 67 i).toInt = 0 → (W 80 i).toInt ≤ (W 80 d).toInt := by
    intro k i a1 a2
    rw [o 80 i (by omega), o 80 d (by omega)]
    rw [o 67 i (by omega)] at a2
    exact hm hk i a1 a2
  by_cases z : y.toInt + 1 ≤ (V 5 8).toInt
  · have kb := key.lastb (by omega)
    exact ⟨_, _, x, kb.w id (fun _ => trivial) id (Nat.le_refl _), by omega, nf, hm'⟩
  · exact ⟨g, _, x, key.w id (fun a => a.elim (fun c => absurd (by rw [o 67 d (by omega)]; exact hk) c) (fun c => Or.inr ((q3 c).resolve_right z))) id (Nat.le_refl _), by omega, nf, hm'⟩
def mrl2 (fs : List (Nat × Nat)) (cs : List Nat) : Bool := fs.all (fun y => decide (y.1 ≤ 6) && !([(3, 15), (5, 5), (5, 6), (5, 8)].contains y)) && cs.all (fun c => decide (7 ≤ c) && decide (c ≤ 40) && !([32, 40].contains c))
theorem mrl2_no {fs : List (Nat × Nat)} {cs : List Nat} (q : mrl2 fs cs = true) {c k : Nat} (h : (41 ≤ c) ∨ c = 32 ∨ c = 40 ∨ (c, k) = (3, 15) ∨ (c, k) = (5, 5) ∨ (c, k) = (5, 6) ∨ (c, k) = (5, 8)) : wrL fs cs c k = false := by
  unfold mrl2 at q
  rw [Bool.and_eq_true, List.all_eq_true, List.all_eq_true] at q
  unfold wrL
  rw [Bool.or_eq_false_iff]
  refine ⟨?_, ?_⟩
  · rw [← Bool.not_eq_true]
    intro z
    have y := q.1 _ (List.contains_iff_mem.mp z)
    rw [Bool.and_eq_true] at y
    have y1 : c ≤ 6 := of_decide_eq_true y.1
    have y2 := y.2
    rcases h with h | h | h | h | h | h | h
    · omega
    · omega
    · omega
    all_goals (rw [h] at y2; exact absurd y2 (by decide))
  · rw [← Bool.not_eq_true]
    intro z
    have y := q.2 _ (List.contains_iff_mem.mp z)
    rw [Bool.and_eq_true, Bool.and_eq_true] at y
    have y1 : c ≤ 40 := of_decide_eq_true y.1.2
    have y0 : 7 ≤ c := of_decide_eq_true y.1.1
    have y2 := y.2
    rcases h with h | h | h | h | h | h | h
    · omega
    · rw [h] at y2; exact absurd y2 (by decide)
    · rw [h] at y2; exact absurd y2 (by decide)
    all_goals (have := congrArg Prod.fst h; simp only at this; omega)
/-- an object more -/
theorem MI.ob {fs : List (Nat × Nat)} {cs : List Nat} {V W : Vf} {Z : XZ} {b n r o : Nat} {g : Nat → Nat} {w v u : Prop} (h : MI V Z b g n r w v u) (a : agr fs cs V W) (q : mrl2 fs cs = true) (sl : SL W Z) (ho : (o : Int) = (V 3 13).toInt) (h13 : (W 3 13).toInt = (V 3 13).toInt + 1) (h300 : (W 3 13).toInt ≤ 300) (e26 : ∀ q : Nat, ¬ q = o → W 26 q = V 26 q) (n26 : (W 26 o).toInt < (V 43 (5 * b + 2)).toInt) (e25 : ∀ k : Nat, k < 960 → W 25 k = V 25 k ∨ ((W 25 k).toInt = (o : Int) ∧ (W 26 o).toInt = ((k % 24 : Nat) : Int))) : MI W Z b g n (r + 203) w v u := by
  have hB : BE V W := fun c k a1 _ => a c k (mrl2_no q (Or.inl a1))
  have er : ∀ c k, 67 ≤ c → W c k = V c k := fun c k a1 => a c k (mrl2_no q (Or.inl (by omega)))
  have e15 : W 3 15 = V 3 15 := a _ _ (mrl2_no q (by simp))
  have e5 : W 5 5 = V 5 5 := a _ _ (mrl2_no q (by simp))
  have e8 : W 5 8 = V 5 8 := a _ _ (mrl2_no q (by simp))
  have e40 : ∀ k, W 40 k = V 40 k := fun k => a _ _ (mrl2_no q (by simp))
  have e43 : W 43 (5 * b + 2) = V 43 (5 * b + 2) := hB _ _ (by decide) (by decide)
  have o0 := h.o0
  refine ⟨sl, h.nf, h.dn, by rw [e43]; exact h.sz, ?_, ?_, ?_, ?_, ⟨⟨by omega, h300⟩, by rw [e15, e8]; exact o0.2⟩, ?_, h.tx.be hB, h.cd.be hB, by rw [e5]; exact h.mb, h.ln, ?_⟩
  · intro i hi
    rw [e43]
    by_cases e : i = o
    · rw [e]; exact n26
    · rw [e26 i e]; exact h.oc i (by omega)
  · intro i hi
    rw [e8] at hi
    rw [e40, h13]
    have := h.md i hi
    omega
  · intro i j a1 a2
    rw [er 67 i (by decide), er 67 j (by decide), er 80 i (by decide), er 80 j (by decide)]
    exact h.mk2 i j a1 a2
  · intro i hi
    have f := h.fk i hi
    have ev : vI W n v u i = vI V n v u i := by unfold vI; rw [er 67 (n - 1) (by decide)]
    rw [ev]
    unfold FK at f ⊢
    rw [er 67 i (by decide), er 68 i (by decide), er 70 i (by decide), er 71 i (by decide), er 75 i (by decide), er 76 i (by decide), er 80 i (by decide), er 84 i (by decide), e43, hB 42 b (by decide) (by decide), hB 41 b (by decide) (by decide), hB.bd, e8, h13]
    refine ⟨f.1, fun a1 a2 => ?_, f.2.2⟩
    have := f.2.1 a1 a2
    omega
  · have p := h.pot
    rw [e15, h13, e8, hB 44 0 (by decide) (by decide)]
    omega
  · intro k hk
    rcases e25 k hk with z | z
    · have q2 := (h.pt k hk).1
      rw [z, h13]
      refine ⟨by omega, fun o' h1 => ?_⟩
      rw [e26 o' (by omega)]
      exact (h.pt k hk).2 o' h1
    · rw [z.1, h13]
      refine ⟨by omega, fun o' h1 => ?_⟩
      rw [show o' = o from by omega]
      exact z.2
/-- MTw, with room for x links -/
def MTx (V : Vf) (Z : XZ) (b x : Nat) : Prop := ∃ g r, x + 1 ≤ r ∧ MI V Z b g (V 5 6).toInt.toNat r True True False
theorem MTw.ob {fs : List (Nat × Nat)} {cs : List Nat} {V W : Vf} {Z : XZ} {b o : Nat} (h : MTw V Z b) (a : agr fs cs V W) (q : mrl2 fs cs = true) (sl : SL W Z) (ho : (o : Int) = (V 3 13).toInt) (h13 : (W 3 13).toInt = (V 3 13).toInt + 1) (h300 : (W 3 13).toInt ≤ 300) (e26 : ∀ q : Nat, ¬ q = o → W 26 q = V 26 q) (n26 : (W 26 o).toInt < (V 43 (5 * b + 2)).toInt) (e25 : ∀ k : Nat, k < 960 → W 25 k = V 25 k ∨ ((W 25 k).toInt = (o : Int) ∧ (W 26 o).toInt = ((k % 24 : Nat) : Int))) : MTx W Z b 202 := by
  obtain ⟨g, r, h⟩ := h
  have e6 : W 5 6 = V 5 6 := a _ _ (mrl2_no q (by simp))
  exact ⟨g, r + 203, by omega, by rw [e6]; exact h.ob a q sl ho h13 h300 e26 n26 e25⟩
theorem MTx.pu {V W : Vf} {Z Z' : XZ} {b f x : Nat} {v : Prop} (h : MTx V Z b x) (hf : (f : Int) ≤ (V 5 6).toInt ∧ (V 5 6).toInt ≤ (f : Int) + 1) (m : ME V W f) (ez : Z'.ln = Z.ln) (h1 : f + 1 ≤ Z'.nf) (h2 : Z'.nf ≤ 400) (hx : FK W b x f True v) (hm : (W 67 f).toInt = 0 → W 80 f = W 5 8) (e : (W 5 6).toInt = (f : Int) + 1) (q : ¬ (W 5 9).toInt = 1) : MJ W Z' b := by
  obtain ⟨g, r, hxr, h⟩ := h
  exact (h.bump (by omega)).pu (by omega) hf m ez h1 h2 hx hm e trivial (fun z => absurd z.1 q) (fun _ => trivial)
/-- one more is held as made: the frame's life goes there -/
theorem MO.made {V V1 W : Vf} {Z : XZ} {b d k : Nat} {w v u : Prop} {x y : Int32} (h : MO V Z b d w v u) (hk : (V 67 d).toInt = 1) (e1 : V1 = up2 V 5 8 y) (e2 : W = up2 V1 40 k x) (hy : y.toInt = (V 5 8).toInt + 1) (hj : (k : Int) = (V 5 8).toInt) (hx : x.toInt < (V 3 13).toInt) : MP W Z b d True := by
  obtain ⟨g, r, z, h0, hz, hF, hm⟩ := h
  have z1 := (hF.2.2.2.2.2.1 hk).1
  have o0 := h0.o0
  have o : ∀ c k', ¬ (c = 5 ∧ k' = 8) → c ≠ 40 → W c k' = V c k' := fun c k' q q2 => by rw [e2, up2_pl (fun a => q2 a.1), e1]; exact up2_pl q
  have e8 : W 5 8 = y := by rw [e2, up2_pl (by omega), e1]; exact up2_s rfl
  have e40 : ∀ i, i ≠ k → W 40 i = V 40 i := fun i q => by rw [e2, up2_pl (by omega), e1]; exact up2_pl (by omega)
  have n40 : W 40 k = x := up2_s e2
  have hB : BE V W := fun c k' a1 a2 => o c k' (by omega) (by omega)
  have e43 : W 43 (5 * b + 2) = V 43 (5 * b + 2) := o _ _ (by omega) (by omega)
  have e13 : W 3 13 = V 3 13 := o _ _ (by omega) (by omega)
  refine ⟨g, r - 1, ⟨?_, h0.nf, h0.dn, by rw [e43]; exact h0.sz, ?_, ?_, ?_, fun i hi => ?_, by rw [e13, o 3 15 (by omega) (by omega), e8]; exact ⟨o0.1, o0.2.1, by omega⟩, ?_, h0.tx.be hB, h0.cd.be hB, by rw [o 5 5 (by omega) (by omega)]; exact h0.mb, h0.ln, ?_⟩⟩
  · unfold SL
    rw [o 3 15 (by omega) (by omega), e13]
    exact ⟨h0.sl.1, h0.sl.2.1, fun o' k' a1 a2 => by rw [o 30 _ (by omega) (by omega)]; exact h0.sl.2.2.1 o' k' a1 a2, fun i a1 => by rw [o 32 _ (by omega) (by omega)]; exact h0.sl.2.2.2 i a1⟩
  · intro i hi
    rw [e13] at hi
    rw [o 26 _ (by omega) (by omega), e43]
    exact h0.oc i hi
  · intro i hi
    rw [e8] at hi
    rw [e13]
    by_cases q : i = k
    · rw [q, n40]; exact hx
    · rw [e40 i q]; exact h0.md i (by omega)
  · intro i j a1 a2
    rw [o 67 i (by omega) (by omega), o 67 j (by omega) (by omega), o 80 i (by omega) (by omega), o 80 j (by omega) (by omega)]
    exact h0.mk2 i j a1 a2
  · have f := (h0.fk i hi).w (y := g i) (w' := i + 1 < d ∨ True) (v' := vI V d True True i) id (fun z => z.elim Or.inl (fun a => Or.inr ⟨a.1, Or.inl (by omega)⟩)) (Nat.le_refl _)
    have ev : vI W d True True i = vI V d True True i := by unfold vI; rw [o 67 (d - 1) (by omega) (by omega)]
    rw [ev]
    unfold FK at f ⊢
    rw [o 67 i (by omega) (by omega), o 68 i (by omega) (by omega), o 70 i (by omega) (by omega), o 71 i (by omega) (by omega), o 75 i (by omega) (by omega), o 76 i (by omega) (by omega), o 80 i (by omega) (by omega), o 84 i (by omega) (by omega), e43, o 42 b (by omega) (by omega), o 41 b (by omega) (by omega), e13, hB.bd, e8]
    refine ⟨f.1, f.2.1, f.2.2.1, f.2.2.2.1, f.2.2.2.2.1, f.2.2.2.2.2.1, fun a1 => ?_, f.2.2.2.2.2.2.2⟩
    have := f.2.2.2.2.2.2.1 a1
    omega
  · have p := h0.pot
    rw [o 3 15 (by omega) (by omega), e13, e8, o 44 0 (by omega) (by omega)]
    omega
  · intro k' hk'
    rw [o 25 _ (by omega) (by omega), e13]
    refine ⟨(h0.pt k' hk').1, fun o' h1 => ?_⟩
    rw [o 26 _ (by omega) (by omega)]
    exact (h0.pt k' hk').2 o' h1

theorem n622 : lw_tbl[622]? = some (Cond.fieldLinkNest RX5 276 "WiringHouse$Book" "wrapOrder" "[I" "WiringHouse") := la9 (n := 155) (i := 467) lz9 (la9 (n := 240) (i := 227) ln9_1 (lb9 (i := 227) (by decide +kernel)))
theorem n620 : lw_tbl[620]? = some (Cond.fieldLinkNest RX5 279 "WiringHouse$Book" "wraps" "[LWiringHouse$Wrap;" "WiringHouse") := la9 (n := 155) (i := 465) lz9 (la9 (n := 240) (i := 225) ln9_1 (lb9 (i := 225) (by decide +kernel)))
theorem n579 : lw_tbl[579]? = some (Cond.fieldLinkNest RX5 283 "WiringHouse$Wrap" "phase" "I" "WiringHouse") := la9 (n := 155) (i := 424) lz9 (la9 (n := 240) (i := 184) ln9_1 (lb9 (i := 184) (by decide +kernel)))
theorem w1410 : Cond.code yX7_noteThing cX7_noteThing 4 none ∈ GW := gw_k tk9_6 55 (rfl) rfl
theorem w1407 : Cond.methodLink RX5 286 yX7_noteThing ∈ GW := gw_k tk9_6 52 (by decide +kernel) rfl
theorem w1408 : Cond.instanceMethod yX7_noteThing ∈ GW := gw_k tk9_6 53 (by decide +kernel) rfl
theorem w1409 : Cond.selects RX7 yX7_noteThing yX7_noteThing ∈ GW := gw_k tk9_6 54 (by decide +kernel) rfl
theorem hdV_yX7_noteThing : yX7_noteThing.cls = RX7 ∧ yX7_noteThing.cls ≠ "java/lang/invoke/MethodHandle" ∧ yX7_noteThing.cls ≠ "java/lang/invoke/VarHandle" ∧ (parseMethodDescriptor yX7_noteThing.desc).map (fun d => d.parameters.length) = some 3 := by decide +kernel
theorem n581 : lw_tbl[581]? = some (Cond.fieldLinkNest RX5 289 "WiringHouse$Wrap" "start" "I" "WiringHouse") := la9 (n := 155) (i := 426) lz9 (la9 (n := 240) (i := 186) ln9_1 (lb9 (i := 186) (by decide +kernel)))
theorem w1379 : Cond.code yX5_pushWork cX5_pushWork 5 (some (.object "WiringHouse$Frame")) ∈ GW := gw_k tk9_6 24 (rfl) rfl
theorem w1376 : Cond.methodLink RX5 231 yX5_pushWork ∈ GW := gw_k tk9_6 21 (by decide +kernel) rfl
theorem w1378 : Cond.instanceMethod yX5_pushWork ∈ GW := gw_k tk9_6 23 (by decide +kernel) rfl
theorem w57 : Cond.selects RX5 yX5_pushWork yX5_pushWork ∈ GW := gw_mem 57 (by decide +kernel) rfl
theorem hdV_yX5_pushWork : yX5_pushWork.cls = RX5 ∧ yX5_pushWork.cls ≠ "java/lang/invoke/MethodHandle" ∧ yX5_pushWork.cls ≠ "java/lang/invoke/VarHandle" ∧ (parseMethodDescriptor yX5_pushWork.desc).map (fun d => d.parameters.length) = some 3 := by decide +kernel
theorem dk9_dX5_workWrap_0_0 : dOk cX5_workWrap [(0, .aload_n 0, 1), (1, .getfield 24, 3), (4, .getfield 276, 3), (7, .iload_n 2, 1), (8, .iaload, 1), (9, .istore 4, 2), (11, .aload_n 0, 1), (12, .getfield 24, 3), (15, .getfield 279, 3), (18, .iload 4, 2), (20, .aaload, 1), (21, .astore 5, 2), (23, .aload_n 0, 1), (24, .getfield 32, 3), (27, .aload 5, 2), (29, .getfield 283, 3), (32, .iload 4, 2), (34, .iload_n 3, 1), (35, .invokevirtual 286, 3), (38, .aload_n 0, 1), (39, .aload_n 1, 1), (40, .aload 5, 2), (42, .getfield 289, 3), (45, .iload_n 3, 1)] = true ∧ dOk cX5_workWrap [(46, .invokevirtual 231, 3), (49, .areturn, 1)] = true := by decide +kernel
theorem dX5_workWrap_0 : decode cX5_workWrap 0 = .ok (.aload_n 0, 1) := dr9 dk9_dX5_workWrap_0_0.1 0 (0, .aload_n 0, 1) rfl
theorem dX5_workWrap_1 : decode cX5_workWrap 1 = .ok (.getfield 24, 3) := dr9 dk9_dX5_workWrap_0_0.1 1 (1, .getfield 24, 3) rfl
theorem dX5_workWrap_4 : decode cX5_workWrap 4 = .ok (.getfield 276, 3) := dr9 dk9_dX5_workWrap_0_0.1 2 (4, .getfield 276, 3) rfl
theorem dX5_workWrap_7 : decode cX5_workWrap 7 = .ok (.iload_n 2, 1) := dr9 dk9_dX5_workWrap_0_0.1 3 (7, .iload_n 2, 1) rfl
theorem dX5_workWrap_8 : decode cX5_workWrap 8 = .ok (.iaload, 1) := dr9 dk9_dX5_workWrap_0_0.1 4 (8, .iaload, 1) rfl
theorem dX5_workWrap_9 : decode cX5_workWrap 9 = .ok (.istore 4, 2) := dr9 dk9_dX5_workWrap_0_0.1 5 (9, .istore 4, 2) rfl
theorem dX5_workWrap_11 : decode cX5_workWrap 11 = .ok (.aload_n 0, 1) := dr9 dk9_dX5_workWrap_0_0.1 6 (11, .aload_n 0, 1) rfl
theorem dX5_workWrap_12 : decode cX5_workWrap 12 = .ok (.getfield 24, 3) := dr9 dk9_dX5_workWrap_0_0.1 7 (12, .getfield 24, 3) rfl
theorem dX5_workWrap_15 : decode cX5_workWrap 15 = .ok (.getfield 279, 3) := dr9 dk9_dX5_workWrap_0_0.1 8 (15, .getfield 279, 3) rfl
theorem dX5_workWrap_18 : decode cX5_workWrap 18 = .ok (.iload 4, 2) := dr9 dk9_dX5_workWrap_0_0.1 9 (18, .iload 4, 2) rfl
theorem dX5_workWrap_20 : decode cX5_workWrap 20 = .ok (.aaload, 1) := dr9 dk9_dX5_workWrap_0_0.1 10 (20, .aaload, 1) rfl
theorem dX5_workWrap_21 : decode cX5_workWrap 21 = .ok (.astore 5, 2) := dr9 dk9_dX5_workWrap_0_0.1 11 (21, .astore 5, 2) rfl
theorem dX5_workWrap_23 : decode cX5_workWrap 23 = .ok (.aload_n 0, 1) := dr9 dk9_dX5_workWrap_0_0.1 12 (23, .aload_n 0, 1) rfl
theorem dX5_workWrap_24 : decode cX5_workWrap 24 = .ok (.getfield 32, 3) := dr9 dk9_dX5_workWrap_0_0.1 13 (24, .getfield 32, 3) rfl
theorem dX5_workWrap_27 : decode cX5_workWrap 27 = .ok (.aload 5, 2) := dr9 dk9_dX5_workWrap_0_0.1 14 (27, .aload 5, 2) rfl
theorem dX5_workWrap_29 : decode cX5_workWrap 29 = .ok (.getfield 283, 3) := dr9 dk9_dX5_workWrap_0_0.1 15 (29, .getfield 283, 3) rfl
theorem dX5_workWrap_32 : decode cX5_workWrap 32 = .ok (.iload 4, 2) := dr9 dk9_dX5_workWrap_0_0.1 16 (32, .iload 4, 2) rfl
theorem dX5_workWrap_34 : decode cX5_workWrap 34 = .ok (.iload_n 3, 1) := dr9 dk9_dX5_workWrap_0_0.1 17 (34, .iload_n 3, 1) rfl
theorem dX5_workWrap_35 : decode cX5_workWrap 35 = .ok (.invokevirtual 286, 3) := dr9 dk9_dX5_workWrap_0_0.1 18 (35, .invokevirtual 286, 3) rfl
theorem dX5_workWrap_38 : decode cX5_workWrap 38 = .ok (.aload_n 0, 1) := dr9 dk9_dX5_workWrap_0_0.1 19 (38, .aload_n 0, 1) rfl
theorem dX5_workWrap_39 : decode cX5_workWrap 39 = .ok (.aload_n 1, 1) := dr9 dk9_dX5_workWrap_0_0.1 20 (39, .aload_n 1, 1) rfl
theorem dX5_workWrap_40 : decode cX5_workWrap 40 = .ok (.aload 5, 2) := dr9 dk9_dX5_workWrap_0_0.1 21 (40, .aload 5, 2) rfl
theorem dX5_workWrap_42 : decode cX5_workWrap 42 = .ok (.getfield 289, 3) := dr9 dk9_dX5_workWrap_0_0.1 22 (42, .getfield 289, 3) rfl
theorem dX5_workWrap_45 : decode cX5_workWrap 45 = .ok (.iload_n 3, 1) := dr9 dk9_dX5_workWrap_0_0.1 23 (45, .iload_n 3, 1) rfl
theorem dX5_workWrap_46 : decode cX5_workWrap 46 = .ok (.invokevirtual 231, 3) := dr9 dk9_dX5_workWrap_0_0.2 0 (46, .invokevirtual 231, 3) rfl
theorem dX5_workWrap_49 : decode cX5_workWrap 49 = .ok (.areturn, 1) := dr9 dk9_dX5_workWrap_0_0.2 1 (49, .areturn, 1) rfl
abbrev r_x_workWrap (Z : XZ) : Room := { frames := 4, cells := zcc Z, slots := zss Z, locals := 90 }
abbrev q_x_workWrap (D : va_G) (ks : KS) (ad : Nat → Nat) (kk : Nat → ClassId) (V : Vf) (L : Lf) (Z : XZ) (p1 : Int32) (p2 : Int32) (b : Nat) (gf : Nat) (A : Nat → Prop) : Array Value → State → Outcome → State → Prop := qZr D (fun (u : Vf × Lf × XZ × Nat) => rgd bX u.1 ∧ agr [(4, 5), (5, 6), (5, 9)] [33, 34, 35, 67, 68, 69, 70, 71, 72, 73, 74, 75, 76, 77, 78, 79, 80, 81, 82, 83, 84, 85] V u.1 ∧ u.2.1 = L ∧ ZL Z u.2.2.1 ∧ (u.2.2.2 < u.2.2.1.nf) ∧ (MJ u.1 u.2.2.1 b) ∧ ((u.2.2.2 : Int) + 1 = (u.1 5 6).toInt) ∧ ((u.1 67 u.2.2.2).toInt = 4 ∧ (u.1 68 u.2.2.2).toInt = 0) ∧ ((u.1 5 9).toInt = 0)) (fun u => u.2.2.1.fa u.2.2.2) (fun u => xw ad kk u.1 u.2.1 u.2.2.1) (fun u => xty kk u.2.2.1) (fun u => zcc Z - zcc u.2.2.1) (fun u => zss Z - zss u.2.2.1) A
set_option maxHeartbeats 4000000 in
set_option maxRecDepth 100000 in
theorem x_workWrap (l : Launch) (D : va_G) (ks : KS) (sz : Nat) (ad : Nat → Nat) (kk : Nat → ClassId) (V : Vf) (L : Lf) (Z : XZ) (p1 : Int32) (p2 : Int32) (b : Nat) (gf : Nat) (hMV : rgd bX V) (rg_p1 : 0 ≤ p1.toInt ∧ p1.toInt ≤ 11) (hb2 : b < 2) (hgf : gf < Z.nf) (mt : MT V Z b) (hcm : 0 ≤ (V 71 gf).toInt ∧ (V 71 gf).toInt < (V 43 (5 * b + 2)).toInt) (hob : 0 ≤ (V 70 gf).toInt ∧ (V 70 gf).toInt < (V 3 13).toInt) (hat : p1.toInt < (V 41 b).toInt)  : Met l yX5_workWrap (Cond.code yX5_workWrap cX5_workWrap 6 (some (.object "WiringHouse$Frame")) :: GW) (r_x_workWrap Z) (va_Pc [.ref (ad 5), .ref (Z.fa gf), .int p1, .int p2] (gp D ks (xw ad kk V L Z) (xty kk Z) sz)) (q_x_workWrap D ks ad kk V L Z p1 p2 b gf (va_A (xw ad kk V L Z) sz)) (zcc Z) (zss Z) (va_A (xw ad kk V L Z) sz) := by
  refine g_met (q_x_workWrap D ks ad kk V L Z p1 p2 b gf) (by decide) (Nat.le_of_ble_eq_true rfl) ?_
  intro p e s m below meth c A ls H locs hx hb hr hml hown hg hlocks hin hnw hgk hP hK hD hS hA hl
  have hown : s.vm.findClass RX5 = some m.cls := hown
  have hl : lv_has ls 6 [(0, .ref (ad 5)), (1, .ref (Z.fa gf)), (2, .int p1), (3, .int p2)] := hl
  have hP : va_P D vwCl (xw ad kk V L Z) H := hP
  have hD : va_D A (xw ad kk V L Z) := hD
  have hK : va_K D vwCl (xty kk Z) s := hK
  have agV : agr [(4, 5), (5, 6), (5, 9)] [33, 34, 35, 67, 68, 69, 70, 71, 72, 73, 74, 75, 76, 77, 78, 79, 80, 81, 82, 83, 84, 85] V V := agr.rf
  have zoZ : ZL Z Z := ZL.rf
  refine W.know (fun ka kb => ?_)
  refine W.tight (k := zcc Z - zcc Z) (n := zss Z - zss Z) (by omega) (by omega) ?_
  have r1 : (-1) ≤ ((V 71 gf)).toInt ∧ ((V 71 gf)).toInt ≤ 23 := hMV 71 gf
  have r2 : 0 ≤ ((V 43 (5 * b + 2))).toInt ∧ ((V 43 (5 * b + 2))).toInt ≤ ((xcap (5 * b + 2) : Nat) : Int) := hMV 43 (5 * b + 2)
  have r3 : xcap (5 * b + 2) = 24 := xcap_2
  have r4 : 0 ≤ ((V 3 13)).toInt ∧ ((V 3 13)).toInt ≤ 300 := hMV 3 13
  have r5 : 0 ≤ ((V 41 b)).toInt ∧ ((V 41 b)).toInt ≤ 12 := hMV 41 b
  have r6 : 0 ≤ ((V 5 6)).toInt ∧ ((V 5 6)).toInt ≤ 400 := hMV 5 6
  have kdp := i_clamp (x := V 5 6) rfl (by omega)
  have hdn := MT.dn mt (by omega)
  have mup := MT.up mt
  have msz := mup.1
  have mbk := mup.2.2.2.1
  refine lv_aload_n hx hb dX5_workWrap_0 rfl (lv_at hl 0 rfl) ?_
  refine va_get (D := D) (ci := 5) (v := .ref (ad (38 + Int32.toNatClampNeg (V 5 5)))) (fs := (xfMachine ad V L Z)) (C := RX5) (T := TX5) (N := 15) hx hb hg inX5 hown hK hP 5 xgMachine rfl 5 (by decide) (hg _ w672) (fun _ h9 => h9) rfl dX5_workWrap_1 ?_
  have r7 : 0 ≤ ((V 5 5)).toInt ∧ ((V 5 5)).toInt ≤ 1 := hMV 5 5
  refine g_topv (v := .ref (ad (38 + b))) (rfP (by omega)) ?_
  refine va_getN (D := D) (ci := 0) (v := .ref (ad (68 + b))) (fs := (xfBook ad V b)) (C := RX0) (T := TX0) (N := 13) hx hb hg inX0 hown hK hP (38 + b) (xgBook hb2) rfl 9 (by decide) (hnw.use 622 n622 rfl) (fun _ h9 => h9) rfl dX5_workWrap_4 ?_
  refine lv_iload_n hx hb dX5_workWrap_7 rfl (lv_at hl 2 rfl) ?_
  have il8 : b < 2 := by omega
  refine va_iald (D := D) (i := p1) hx hb hK hP (68 + b) (61 + b) (xgwrapOrder il8) (xtwrapOrder il8) (i_in (a := p1.toInt) rfl (by omega)) dX5_workWrap_8 ?_
  have kc9 := i_clamp (x := p1) rfl (by omega)
  refine g_top (v := V 47 (12 * b + (Int32.toNatClampNeg p1))) (if_pos (by omega)) ?_
  have r10 : 0 ≤ ((V 47 (12 * b + (Int32.toNatClampNeg p1)))).toInt ∧ ((V 47 (12 * b + (Int32.toNatClampNeg p1)))).toInt ≤ 11 := hMV 47 (12 * b + (Int32.toNatClampNeg p1))
  refine lv_istore (lv' := [(4, .int (V 47 (12 * b + (Int32.toNatClampNeg p1)))), (0, .ref (ad 5)), (1, .ref (Z.fa gf)), (2, .int p1), (3, .int p2)]) hx hb dX5_workWrap_9 hl (by decide) rfl (fun ls hl => ?_)
  have kcp := i_clamp (x := p1) rfl (by omega)
  have htx := mup.2.1.2.2 (Int32.toNatClampNeg p1) (by omega)
  have kcw := i_clamp (x := (V 47 (12 * b + (Int32.toNatClampNeg p1)))) rfl (by omega)
  have hgs := mup.2.1.2.1 (Int32.toNatClampNeg (V 47 (12 * b + (Int32.toNatClampNeg p1)))) (by omega)
  refine lv_aload_n hx hb dX5_workWrap_11 rfl (lv_at hl 1 rfl) ?_
  refine va_get (D := D) (ci := 5) (v := .ref (ad (38 + Int32.toNatClampNeg (V 5 5)))) (fs := (xfMachine ad V L Z)) (C := RX5) (T := TX5) (N := 15) hx hb hg inX5 hown hK hP 5 xgMachine rfl 5 (by decide) (hg _ w672) (fun _ h9 => h9) rfl dX5_workWrap_12 ?_
  refine g_topv (v := .ref (ad (38 + b))) (rfP (by omega)) ?_
  refine va_getN (D := D) (ci := 0) (v := .ref (ad (66 + b))) (fs := (xfBook ad V b)) (C := RX0) (T := TX0) (N := 13) hx hb hg inX0 hown hK hP (38 + b) (xgBook hb2) rfl 8 (by decide) (hnw.use 620 n620 rfl) (fun _ h9 => h9) rfl dX5_workWrap_15 ?_
  refine lv_iload hx hb dX5_workWrap_18 (lv_at hl 0 rfl) ?_
  have il11 : b < 2 := by omega
  refine va_aldq (D := D) (i := (V 47 (12 * b + (Int32.toNatClampNeg p1)))) hx hb hK hP (66 + b) (59 + b) (xgwrapsA il11) (xtwrapsA il11) (i_in (a := ((V 47 (12 * b + (Int32.toNatClampNeg p1)))).toInt) rfl (by omega)) dX5_workWrap_20 ?_
  have kc12 := i_clamp (x := (V 47 (12 * b + (Int32.toNatClampNeg p1)))) rfl (by omega)
  refine g_topv (v := .ref (ad (312 + (12 * b + (Int32.toNatClampNeg (V 47 (12 * b + (Int32.toNatClampNeg p1)))))))) (congrArg va_rf (if_pos (by omega))) ?_
  have il13 : (12 * b + (Int32.toNatClampNeg (V 47 (12 * b + (Int32.toNatClampNeg p1))))) < 24 := by omega
  refine lv_astore (lv' := [(5, .ref (ad (312 + (12 * b + (Int32.toNatClampNeg (V 47 (12 * b + (Int32.toNatClampNeg p1)))))))), (4, .int (V 47 (12 * b + (Int32.toNatClampNeg p1)))), (0, .ref (ad 5)), (1, .ref (Z.fa gf)), (2, .int p1), (3, .int p2)]) hx hb dX5_workWrap_21 hl (by decide) rfl (fun ls hl => ?_)
  refine lv_aload_n hx hb dX5_workWrap_23 rfl (lv_at hl 2 rfl) ?_
  refine va_get (D := D) (ci := 5) (v := .ref (ad 4)) (fs := (xfMachine ad V L Z)) (C := RX5) (T := TX5) (N := 15) hx hb hg inX5 hown hK hP 5 xgMachine rfl 1 (by decide) (hg _ w668) (fun _ h9 => h9) rfl dX5_workWrap_24 ?_
  refine lv_aload hx hb dX5_workWrap_27 (lv_at hl 0 rfl) ?_
  refine va_getN (D := D) (ci := 10) (v := .int (V 65 (12 * b + (Int32.toNatClampNeg (V 47 (12 * b + (Int32.toNatClampNeg p1))))))) (fs := (xfWrap V (12 * b + (Int32.toNatClampNeg (V 47 (12 * b + (Int32.toNatClampNeg p1))))))) (C := RX10) (T := TX10) (N := 5) hx hb hg inX10 hown hK hP (312 + (12 * b + (Int32.toNatClampNeg (V 47 (12 * b + (Int32.toNatClampNeg p1)))))) (xgWrap il13) rfl 3 (by decide) (hnw.use 579 n579 rfl) (fun _ h9 => h9) rfl dX5_workWrap_29 ?_
  refine lv_iload hx hb dX5_workWrap_32 (lv_at hl 1 rfl) ?_
  refine lv_iload_n hx hb dX5_workWrap_34 rfl (lv_at hl 5 rfl) ?_
  refine gA_void (gA_runV (As := [.int (V 65 (12 * b + (Int32.toNatClampNeg (V 47 (12 * b + (Int32.toNatClampNeg p1)))))), .int (V 47 (12 * b + (Int32.toNatClampNeg p1))), .int p2]) (rest := []) (ci := 7) (q0 := 4) hx hb hml hown hg hP hD hK hS hA hnw hgk (x_NnoteThing l D ks H.size ad kk V L Z (V 65 (12 * b + (Int32.toNatClampNeg (V 47 (12 * b + (Int32.toNatClampNeg p1)))))) (V 47 (12 * b + (Int32.toNatClampNeg p1))) p2 hMV ) w1407 w1408 w1409 w166 w1410 rfl xgNotes hdV_yX7_noteThing ⟨Nat.le_of_ble_eq_true rfl, Nat.le_of_ble_eq_true rfl⟩ rfl hl.1 rfl (Nat.le_of_ble_eq_true rfl) dX5_workWrap_35 ⟨z0, z0⟩) hP hD hK hS hA (fun u15 H locs w16 hP hD hK hS => ?_)
  obtain ⟨V17, L18⟩ := u15
  obtain ⟨hMV17, ajV17, axL18⟩ := w16
  have axL18 : L = L18 := Eq.symm axL18
  subst axL18
  have hP : va_P D vwCl (xw ad kk V17 L Z) H := hP
  have hD : va_D A (xw ad kk V17 L Z) := hD
  have hMV17 : rgd bX V17 := hMV17
  have ajV17 : agr [(4, 5)] [33, 34, 35] V V17 := ajV17
  have agV17 : agr [(4, 5), (5, 6), (5, 9)] [33, 34, 35, 67, 68, 69, 70, 71, 72, 73, 74, 75, 76, 77, 78, 79, 80, 81, 82, 83, 84, 85] V V17 := agV.tr ajV17 (by decide) (by decide)
  refine lv_aload_n hx hb dX5_workWrap_38 rfl (lv_at hl 2 rfl) ?_
  refine lv_aload_n hx hb dX5_workWrap_39 rfl (lv_at hl 3 rfl) ?_
  refine lv_aload hx hb dX5_workWrap_40 (lv_at hl 0 rfl) ?_
  refine va_getN (D := D) (ci := 10) (v := .int (V17 66 (12 * b + (Int32.toNatClampNeg (V 47 (12 * b + (Int32.toNatClampNeg p1))))))) (fs := (xfWrap V17 (12 * b + (Int32.toNatClampNeg (V 47 (12 * b + (Int32.toNatClampNeg p1))))))) (C := RX10) (T := TX10) (N := 5) hx hb hg inX10 hown hK hP (312 + (12 * b + (Int32.toNatClampNeg (V 47 (12 * b + (Int32.toNatClampNeg p1)))))) (xgWrap il13) rfl 4 (by decide) (hnw.use 581 n581 rfl) (fun _ h9 => h9) rfl dX5_workWrap_42 ?_
  refine g_top (v := (V 66 (12 * b + (Int32.toNatClampNeg (V 47 (12 * b + (Int32.toNatClampNeg p1))))))) (ajV17 66 (12 * b + (Int32.toNatClampNeg (V 47 (12 * b + (Int32.toNatClampNeg p1))))) rfl) ?_
  have r19 : 0 ≤ ((V 66 (12 * b + (Int32.toNatClampNeg (V 47 (12 * b + (Int32.toNatClampNeg p1))))))).toInt ∧ ((V 66 (12 * b + (Int32.toNatClampNeg (V 47 (12 * b + (Int32.toNatClampNeg p1))))))).toInt ≤ 8200 := hMV 66 (12 * b + (Int32.toNatClampNeg (V 47 (12 * b + (Int32.toNatClampNeg p1)))))
  refine lv_iload_n hx hb dX5_workWrap_45 rfl (lv_at hl 5 rfl) ?_
  have pq20 : (V17 71 gf).toInt = ((V 71 gf)).toInt := congrArg Int32.toInt (ajV17 71 gf rfl)
  have pq21 : (V17 43 (5 * b + 2)).toInt = ((V 43 (5 * b + 2))).toInt := congrArg Int32.toInt (ajV17 43 (5 * b + 2) rfl)
  have pq22 : (V17 3 13).toInt = ((V 3 13)).toInt := congrArg Int32.toInt (ajV17 3 13 rfl)
  have pq23 : (V17 70 gf).toInt = ((V 70 gf)).toInt := congrArg Int32.toInt (ajV17 70 gf rfl)
  have me24 : ME V V17 400 := (ME.tr ME.rf (ME.ag ajV17 (by decide)))
  have mt25 : MT V17 Z b := MT.me mt me24 (ajV17 5 6 rfl)
  have me26 : ME V V17 0 := (ME.tr ME.rf (ME.ag ajV17 (by decide)))
  have ha27 : (V17 42 b).toInt ≤ ((V 66 (12 * b + (Int32.toNatClampNeg (V 47 (12 * b + (Int32.toNatClampNeg p1))))))).toInt ∨ (bdp V17 b (((V 66 (12 * b + (Int32.toNatClampNeg (V 47 (12 * b + (Int32.toNatClampNeg p1))))))).toInt).toNat).1 = true := by rw [me26.1.bd, me26.1 42 b (by decide) (by decide)]; exact gs.fk hgs (hMV 42 b).2
  refine W.know (fun k29 k30 => ?_)
  obtain ⟨Hk28, hHk28⟩ : ∃ z, z = H := ⟨_, rfl⟩
  have k29 : Hk28.size ≤ s.heap.size + (zcc Z - zcc Z) := by rw [hHk28]; exact k29
  have k30 : tot Hk28 ≤ tot s.heap + (zss Z - zss Z) := by rw [hHk28]; exact k30
  refine gZ_ref (gA_runV (As := [.ref (Z.fa gf), .int (V 66 (12 * b + (Int32.toNatClampNeg (V 47 (12 * b + (Int32.toNatClampNeg p1)))))), .int p2]) (rest := []) (ci := 5) (q0 := 5) hx hb hml hown hg hP hD hK hS hA hnw hgk (x_pushWork l D ks H.size ad kk V17 L Z (V 66 (12 * b + (Int32.toNatClampNeg (V 47 (12 * b + (Int32.toNatClampNeg p1)))))) p2 (b) (gf) hMV17 (by omega) (show b < 2 from by omega) (show gf < Z.nf from by omega) mt25 (show 0 ≤ (V17 71 gf).toInt ∧ (V17 71 gf).toInt < (V17 43 (5 * b + 2)).toInt from by omega) (show 0 ≤ (V17 70 gf).toInt ∧ (V17 70 gf).toInt < (V17 3 13).toInt from by omega) ha27) w1376 w1378 w57 w171 w1379 rfl xgMachine hdV_yX5_pushWork ⟨Nat.le_of_ble_eq_true rfl, Nat.le_of_ble_eq_true rfl⟩ rfl hl.1 rfl (Nat.le_of_ble_eq_true rfl) dX5_workWrap_46 ⟨z1 zoZ.1, z1 zoZ.2.1⟩) hD hS hA (fun u32 H locs w33 hP hD hK hS y34 y35 => ?_)
  obtain ⟨V36, L37, Z38, f39⟩ := u32
  obtain ⟨hMV36, ajV36, axL37, zlZ38, ilf39, t40, t41, t42, t43⟩ := w33
  have axL37 : L = L37 := Eq.symm axL37
  subst axL37
  have hP : va_P D vwCl (xw ad kk V36 L Z38) H := hP
  have hD : va_D A (xw ad kk V36 L Z38) := hD
  have hK : va_K D vwCl (xty kk Z38) s := hK
  have hMV36 : rgd bX V36 := hMV36
  have ajV36 : agr [(5, 6), (5, 9)] [67, 68, 69, 70, 71, 72, 73, 74, 75, 76, 77, 78, 79, 80, 81, 82, 83, 84, 85] V17 V36 := ajV36
  have agV36 : agr [(4, 5), (5, 6), (5, 9)] [33, 34, 35, 67, 68, 69, 70, 71, 72, 73, 74, 75, 76, 77, 78, 79, 80, 81, 82, 83, 84, 85] V V36 := agV17.tr ajV36 (by decide) (by decide)
  have zlZ38 : ZL Z Z38 := zlZ38
  have zoZ38 : ZL Z Z38 := ZL.tr zoZ zlZ38
  have ziZ38 := zlZ38.1
  have zjZ38 := zlZ38.2.1
  have zkZ38 := zlZ38.2.2.1
  have zmZ38 := zoZ38.1
  have znZ38 := zoZ38.2.1
  have zpZ_Z38 := zoZ.1
  have zqZ_Z38 := zoZ.2.1
  have y34 : H.size ≤ Hk28.size + (zcc Z - zcc Z38) := by rw [hHk28]; exact y34
  have y35 : tot H ≤ tot Hk28 + (zss Z - zss Z38) := by rw [hHk28]; exact y35
  refine W.tight (k := zcc Z - zcc Z38) (n := zss Z - zss Z38) (by first | exact tg9 y34 k29 zlZ38.1 zoZ.1 | omega) (by first | exact tg9 y35 k30 zlZ38.2.1 zoZ.2.1 | omega) ?_
  have hl : lv_has ls 6 [(5, .ref (ad (312 + (12 * b + (Int32.toNatClampNeg (V 47 (12 * b + (Int32.toNatClampNeg p1)))))))), (4, .int (V 47 (12 * b + (Int32.toNatClampNeg p1)))), (0, .ref (ad 5)), (1, .ref (Z38.fa gf)), (2, .int p1), (3, .int p2)] := by rw [zlZ38.2.2.2.2 gf hgf]; exact hl
  have ilf39 : f39 < Z38.nf := ilf39
  have t40 : MJ V36 Z38 b := t40
  have t41 : (f39 : Int) + 1 = (V36 5 6).toInt := t41
  have t42 : (V36 67 f39).toInt = 4 ∧ (V36 68 f39).toInt = 0 := t42
  have t43 : (V36 5 9).toInt = 0 := t43
  have r44 : 0 ≤ ((V36 5 6)).toInt ∧ ((V36 5 6)).toInt ≤ 400 := hMV36 5 6
  have r45 : 0 ≤ ((V36 5 9)).toInt ∧ ((V36 5 9)).toInt ≤ 3 := hMV36 5 9
  refine W.know (fun kr1 kr2 => ?_)
  refine W.widen (k := zcc Z) (n := zss Z) (Nat.sub_le _ _) (Nat.sub_le _ _) ?_
  exact W.aret (v := .ref (Z38.fa f39)) hx hb hr (Or.inl ⟨_, rfl⟩) (Or.inr ⟨_, rfl⟩) (fun t ht hW => ⟨⟨(V36, L, Z38, f39), rfl, ⟨hMV36, agV36, rfl, zoZ38, ilf39, t40, (show (f39 : Int) + 1 = (V36 5 6).toInt from by omega), t42, (show (V36 5 9).toInt = 0 from by omega)⟩, ⟨by rw [ht]; exact hP, va_K.moved hW.alike hK, hD⟩, by rw [ht]; exact kr1, by rw [ht]; exact kr2⟩, hS.F ht⟩) hS.2.2 dX5_workWrap_49
