/-! two pictures of one heap: the class's code and wraps -/
def LKe (V V2 : Vf) : Prop := (∀ i, i < 2 → V2 41 i = V 41 i ∧ V2 42 i = V 42 i) ∧ (∀ i, i < 48 → V2 56 i = V 56 i ∧ V2 57 i = V 57 i) ∧ (∀ i k, i < 48 → k < 20 → V2 61 (20 * i + k) = V 61 (20 * i + k)) ∧ (∀ i, i < 24 → V2 62 i = V 62 i ∧ V2 63 i = V 63 i ∧ V2 64 i = V 64 i ∧ V2 65 i = V 65 i ∧ V2 66 i = V 66 i) ∧ (∀ i k, i < 2 → k < 12 → V2 47 (12 * i + k) = V 47 (12 * i + k)) ∧ ∀ i k, i < 2 → k < 8200 → V2 48 (8200 * i + k) = V 48 (8200 * i + k)
theorem LKe.of {D : va_G} {ad : Nat → Nat} {kk : Nat → ClassId} {V V2 : Vf} {L L2 : Lf} {Z : XZ} {H : Heap} (h : va_P D vwCl (xw ad kk V L Z) H) (h' : va_P D vwCl (xw ad kk V2 L2 Z) H) : LKe V V2 := by
  refine ⟨fun i hi => ?_, fun i hi => ?_, fun i k hi hk => ?_, fun i hi => ?_, fun i k hi hk => ?_, fun i k hi hk => ?_⟩
  · have f : ∀ k, k < 13 → vp_V (xfBook ad V2 i) k = vp_V (xfBook ad V i) k := fun k hk => at_o (h' _ _ (xgBook hi)) (h _ _ (xgBook hi)) (r := (RX0, TX0, 13)) rfl hk
    have z41 : Value.int (V2 41 i) = Value.int (V 41 i) := f 11 (by decide)
    injection z41 with z41
    have z42 : Value.int (V2 42 i) = Value.int (V 42 i) := f 12 (by decide)
    injection z42 with z42
    exact ⟨z41, z42⟩
  · have f : ∀ k, k < 13 → vp_V (xfComp ad V2 i) k = vp_V (xfComp ad V i) k := fun k hk => at_o (h' _ _ (xgComp hi)) (h _ _ (xgComp hi)) (r := (RX3, TX3, 13)) rfl hk
    have z56 : Value.int (V2 56 i) = Value.int (V 56 i) := f 11 (by decide)
    injection z56 with z56
    have z57 : Value.int (V2 57 i) = Value.int (V 57 i) := f 12 (by decide)
    injection z57 with z57
    exact ⟨z56, z57⟩
  · have z : (if k < 20 then V2 61 (20 * i + k) else 0) = (if k < 20 then V 61 (20 * i + k) else 0) := at_i (h' _ _ (xgmethodStarts hi)) (h _ _ (xgmethodStarts hi)) hk
    rw [if_pos hk, if_pos hk] at z
    exact z
  · have f : ∀ k, k < 5 → vp_V (xfWrap V2 i) k = vp_V (xfWrap V i) k := fun k hk => at_o (h' _ _ (xgWrap hi)) (h _ _ (xgWrap hi)) (r := (RX10, TX10, 5)) rfl hk
    have z62 : Value.int (V2 62 i) = Value.int (V 62 i) := f 0 (by decide)
    injection z62 with z62
    have z63 : Value.int (V2 63 i) = Value.int (V 63 i) := f 1 (by decide)
    injection z63 with z63
    have z64 : Value.int (V2 64 i) = Value.int (V 64 i) := f 2 (by decide)
    injection z64 with z64
    have z65 : Value.int (V2 65 i) = Value.int (V 65 i) := f 3 (by decide)
    injection z65 with z65
    have z66 : Value.int (V2 66 i) = Value.int (V 66 i) := f 4 (by decide)
    injection z66 with z66
    exact ⟨z62, z63, z64, z65, z66⟩
  · have z : (if k < 12 then V2 47 (12 * i + k) else 0) = (if k < 12 then V 47 (12 * i + k) else 0) := at_i (h' _ _ (xgwrapOrder hi)) (h _ _ (xgwrapOrder hi)) hk
    rw [if_pos hk, if_pos hk] at z
    exact z
  · have z : (if k < 8200 then V2 48 (8200 * i + k) else 0) = (if k < 8200 then V 48 (8200 * i + k) else 0) := at_i (h' _ _ (xgcode hi)) (h _ _ (xgcode hi)) hk
    rw [if_pos hk, if_pos hk] at z
    exact z
/-- .. scopes, objects, what is told -/
def LKs (V V2 : Vf) : Prop := (V2 3 12 = V 3 12 ∧ V2 3 13 = V 3 13 ∧ V2 3 14 = V 3 14 ∧ V2 3 15 = V 3 15) ∧ (V2 4 6 = V 4 6 ∧ V2 4 7 = V 4 7 ∧ V2 4 8 = V 4 8) ∧ (V2 5 13 = V 5 13 ∧ V2 5 14 = V 5 14) ∧ (∀ k, k < 40 → V2 21 k = V 21 k ∧ V2 22 k = V 22 k ∧ V2 23 k = V 23 k ∧ V2 24 k = V 24 k) ∧ ∀ k, k < 960 → V2 25 k = V 25 k
theorem LKs.of {D : va_G} {ad : Nat → Nat} {kk : Nat → ClassId} {V V2 : Vf} {L L2 : Lf} {Z : XZ} {H : Heap} (h : va_P D vwCl (xw ad kk V L Z) H) (h' : va_P D vwCl (xw ad kk V2 L2 Z) H) : LKs V V2 := by
  have fStock : ∀ k, k < 16 → vp_V (xfStock ad V2 L2 Z) k = vp_V (xfStock ad V L Z) k := fun k hk => at_o (h' _ _ xgStock) (h _ _ xgStock) (r := (RX8, TX8, 16)) rfl hk
  have z3_12 : Value.int (V2 3 12) = Value.int (V 3 12) := fStock 12 (by decide)
  injection z3_12 with z3_12
  have z3_13 : Value.int (V2 3 13) = Value.int (V 3 13) := fStock 13 (by decide)
  injection z3_13 with z3_13
  have z3_14 : Value.int (V2 3 14) = Value.int (V 3 14) := fStock 14 (by decide)
  injection z3_14 with z3_14
  have z3_15 : Value.int (V2 3 15) = Value.int (V 3 15) := fStock 15 (by decide)
  injection z3_15 with z3_15
  have fNotes : ∀ k, k < 10 → vp_V (xfNotes ad V2 L2 Z) k = vp_V (xfNotes ad V L Z) k := fun k hk => at_o (h' _ _ xgNotes) (h _ _ xgNotes) (r := (RX7, TX7, 10)) rfl hk
  have z4_6 : Value.int (V2 4 6) = Value.int (V 4 6) := fNotes 6 (by decide)
  injection z4_6 with z4_6
  have z4_7 : Value.int (V2 4 7) = Value.int (V 4 7) := fNotes 7 (by decide)
  injection z4_7 with z4_7
  have z4_8 : Value.int (V2 4 8) = Value.int (V 4 8) := fNotes 8 (by decide)
  injection z4_8 with z4_8
  have fMachine : ∀ k, k < 15 → vp_V (xfMachine ad V2 L2 Z) k = vp_V (xfMachine ad V L Z) k := fun k hk => at_o (h' _ _ xgMachine) (h _ _ xgMachine) (r := (RX5, TX5, 15)) rfl hk
  have z5_13 : Value.int (V2 5 13) = Value.int (V 5 13) := fMachine 13 (by decide)
  injection z5_13 with z5_13
  have z5_14 : Value.int (V2 5 14) = Value.int (V 5 14) := fMachine 14 (by decide)
  injection z5_14 with z5_14
  exact ⟨⟨z3_12, z3_13, z3_14, z3_15⟩, ⟨z4_6, z4_7, z4_8⟩, ⟨z5_13, z5_14⟩, fun k hk => ⟨at_i (h' 18 _ rfl) (h 18 _ rfl) hk, at_i (h' 19 _ rfl) (h 19 _ rfl) hk, at_i (h' 20 _ rfl) (h 20 _ rfl) hk, at_i (h' 21 _ rfl) (h 21 _ rfl) hk⟩, fun k hk => at_i (h' 22 _ rfl) (h 22 _ rfl) hk⟩
theorem CDc.lk {V V2 : Vf} {b : Nat} {s : St} (h : CDc V2 b s) (hM : rgd bX V2) (hb : b < 2) (l : LKe V V2) : CDc V b s := by
  have e42 := (l.1 b hb).2
  have bd : 0 ≤ (V2 42 b).toInt ∧ (V2 42 b).toInt ≤ 8200 := hM 42 b
  have c := h.1
  refine ⟨by rw [← e42]; exact h.1, fun i hi => ?_⟩
  have z := h.2 i hi
  have p1 : psz (opf s) i + szO (opf s i) ≤ wl s := psz_le hi
  have sb := szO_b (opf s i)
  have l48 := l.2.2.2.2.2
  unfold CDr at z ⊢
  refine ⟨by rw [← l48 b _ hb (by omega)]; exact z.1, fun q => ?_, z.2.2⟩
  have q2 : szO (opf s i) = 2 := q
  have e := l48 b (psz (opf s) i + 1) hb (by omega)
  rw [← Nat.add_assoc] at e
  rw [← e]
  exact z.2.1 q
theorem REc.lk {V V2 : Vf} {b : Nat} {s : St} (h : REc V2 b s) (hb : b < 2) (l : LKe V V2) : REc V b s := by
  refine ⟨h.1, fun c hc k hk => ?_, h.2.2⟩
  have n := h.1
  have e := l.2.1 (24 * b + c) (by omega)
  rw [← h.2.1 c hc k hk]
  exact (cR_e (fun k20 => l.2.2.1 (24 * b + c) k (by omega) k20) e.1 e.2).symm
theorem WWc.lk {V V2 : Vf} {b : Nat} {s : St} (h : WWc V2 b s) (hb : b < 2) (l : LKe V V2) : WWc V b s := by
  refine ⟨h.1, fun w hw => ?_⟩
  have n := h.1
  have z := h.2 w hw
  obtain ⟨e1, e2, e3, e4, e5⟩ := l.2.2.2.1 (12 * b + w) (by omega)
  unfold WWr at z ⊢
  rw [← e1, ← e2, ← e3, ← e4, ← e5]
  exact z
theorem CEo.lk {V V2 : Vf} {b : Nat} {s : St} (h : CEo V2 b s) (hM : rgd bX V2) (hb : b < 2) (l : LKe V V2) : CEo V b s := ⟨h.1.lk hM hb l, h.2.1.lk hb l, h.2.2.1.lk hb l, h.2.2.2⟩
theorem WRc.lk {V V2 : Vf} {b : Nat} {s : St} (h : WRc V2 b s) (n12 : s.2.2.1.length ≤ 12) (hb : b < 2) (l : LKe V V2) : WRc V b s := by
  refine ⟨by rw [← (l.1 b hb).1]; exact h.1, fun i hi => ?_⟩
  have z := h.2 i hi
  obtain ⟨_, e2, _, e4, _⟩ := l.2.2.2.1 (12 * b + i) (by omega)
  rw [← e2, ← e4]
  exact z
theorem WO.lk {V V2 : Vf} {b : Nat} (h : WO V2 b) (hM : rgd bX V2) (hb : b < 2) (l : LKe V V2) : WO V b := fun n hn i hi => by
  rw [← (l.1 b hb).1] at hn
  have bd : 0 ≤ (V2 41 b).toInt ∧ (V2 41 b).toInt ≤ 12 := hM 41 b
  have z := h n hn i hi
  rw [← l.2.2.2.2.1 b i hb (by omega), z, srI_ext (f := fun w => (V 64 (12 * b + w)).toInt) n (fun w hw => congrArg Int32.toInt (l.2.2.2.1 (12 * b + w) (by omega)).2.2.1)]
theorem RST.lk {V W W2 : Vf} (h : RST V W2) (l : LKs W W2) (a : ∀ s, W 21 s = V 21 s ∧ W 22 s = V 22 s) : RST V W := by
  obtain ⟨⟨c1, c2, c3⟩, ⟨c4, c5, c6⟩, ⟨c7, c8⟩, c9, c10, c11, _⟩ := h
  obtain ⟨⟨e1, e2, e3, _⟩, ⟨e4, e5, e6⟩, ⟨e7, e8⟩, e9, e10⟩ := l
  rw [e1] at c1
  rw [e2] at c2
  rw [e3] at c3
  rw [e4] at c4
  rw [e5] at c5
  rw [e6] at c6
  rw [e7] at c7
  rw [e8] at c8
  rw [(e9 0 (by decide)).2.2.1] at c9
  exact ⟨⟨c1, c2, c3⟩, ⟨c4, c5, c6⟩, ⟨c7, c8⟩, c9, fun s hs => by rw [← (e9 s hs).2.2.2]; exact c10 s hs, fun q hq => by rw [← e10 q hq]; exact c11 q hq, a⟩
/-! .. the reference's -/
def LKr (V V2 : Vf) : Prop := (∀ k, k < 48 → V2 32 k = V 32 k) ∧ (∀ k, k < 48 → V2 33 k = V 33 k) ∧ (∀ k, k < 960 → V2 34 k = V 34 k) ∧ (∀ k, k < 2 → V2 39 k = V 39 k) ∧ (∀ k, k < 24 → V2 40 k = V 40 k) ∧ (∀ k, k < 24 → V2 41 k = V 41 k) ∧ (∀ k, k < 24 → V2 42 k = V 42 k) ∧ (∀ k, k < 24 → V2 43 k = V 43 k) ∧ (∀ k, k < 24 → V2 44 k = V 44 k) ∧ (∀ k, k < 20000 → V2 45 k = V 45 k) ∧ (∀ k, k < 20000 → V2 46 k = V 46 k) ∧ (∀ k, k < 20000 → V2 47 k = V 47 k) ∧ V2 0 48 = V 0 48 ∧ V2 0 49 = V 0 49
theorem LKr.of {D : va_G} {ad : Nat → Nat} {kk : Nat → ClassId} {k1 : Nat} {V V2 : Vf} {L L2 : Lf} {H : Heap} (h : va_P D vwCl (mw ad kk k1 V L) H) (h' : va_P D vwCl (mw ad kk k1 V2 L2) H) : LKr V V2 := by
  have z48 : Value.int (V2 0 48) = Value.int (V 0 48) := at_o (h' 0 _ rfl) (h 0 _ rfl) (r := (RX12, TX12, 100)) rfl (k := 48) (by decide)
  injection z48 with z48
  have z49 : Value.int (V2 0 49) = Value.int (V 0 49) := at_o (h' 0 _ rfl) (h 0 _ rfl) (r := (RX12, TX12, 100)) rfl (k := 49) (by decide)
  injection z49 with z49
  exact ⟨fun k hk => at_i (h' 25 _ rfl) (h 25 _ rfl) hk, fun k hk => at_i (h' 26 _ rfl) (h 26 _ rfl) hk, fun k hk => at_i (h' 27 _ rfl) (h 27 _ rfl) hk, fun k hk => at_i (h' 32 _ rfl) (h 32 _ rfl) hk, fun k hk => at_i (h' 33 _ rfl) (h 33 _ rfl) hk, fun k hk => at_i (h' 34 _ rfl) (h 34 _ rfl) hk, fun k hk => at_i (h' 35 _ rfl) (h 35 _ rfl) hk, fun k hk => at_i (h' 36 _ rfl) (h 36 _ rfl) hk, fun k hk => at_i (h' 37 _ rfl) (h 37 _ rfl) hk, fun k hk => at_i (h' 38 _ rfl) (h 38 _ rfl) hk, fun k hk => at_i (h' 39 _ rfl) (h 39 _ rfl) hk, fun k hk => at_i (h' 40 _ rfl) (h 40 _ rfl) hk, z48, z49⟩
theorem CEm.lk {V V2 : Vf} {q : Nat} {s : St} (h : CEm V2 q s) (n : cl s ≤ 10000) (hq : q < 2) (l : LKr V V2) : CEm V q s := by
  obtain ⟨h1, h2, h3⟩ := h
  obtain ⟨l32, l33, l34, l39, l40, l41, l42, l43, l44, l45, l46, l47, l48, l49⟩ := l
  refine ⟨⟨by rw [← l48]; exact h1.1, by rw [← l49]; exact h1.2.1, fun i hi => ?_⟩, ⟨h2.1, fun c hc k hk => ?_, h2.2.2⟩, ⟨h3.1, fun w hw => ?_⟩⟩
  · have z := h1.2.2 i hi
    unfold CDmr at z ⊢
    rw [← l45 _ (by omega), ← l46 _ (by omega), ← l47 _ (by omega)]
    exact z
  · have z := h2.2.1 c hc k hk
    have n24 := h2.1
    rw [← z]
    unfold cM
    by_cases k20 : k < 20
    · rw [if_pos k20, if_pos k20, l34 _ (by omega)]
    · rw [if_neg k20, if_neg k20, l32 _ (by omega), l33 _ (by omega)]
  · have z := h3.2 w hw
    have n12 := h3.1
    unfold WMr at z ⊢
    rw [← l40 _ (by omega), ← l41 _ (by omega), ← l42 _ (by omega), ← l43 _ (by omega), ← l44 _ (by omega)]
    exact z
theorem WRm.lk {V V2 : Vf} {q : Nat} {s : St} (h : WRm V2 q s) (n12 : s.2.2.1.length ≤ 12) (hq : q < 2) (l : LKr V V2) : WRm V q s := by
  obtain ⟨_, _, _, l39, _, l41, _, l43, _⟩ := l
  refine ⟨by rw [← l39 q hq]; exact h.1, fun i hi => ?_⟩
  have z := h.2 i hi
  rw [← l41 _ (by omega), ← l43 _ (by omega)]
  exact z
/-! what the law keeps of the house at work -/
theorem Met.mono {l : Launch} {y : MethodName} {ws : List Cond} {rm : Room} {Pc : Array Value → State → Prop} {Q Q2 : Array Value → State → Outcome → State → Prop} {mc ms : Nat} {free : Addr → Prop} (h : Met l y ws rm Pc Q mc ms free) (f : ∀ a s o t, Q a s o t → Q2 a s o t) : Met l y ws rm Pc Q2 mc ms free := by
  unfold Met MetFree at h ⊢
  intro p e ha hf hc s m args below hfr hS hP hK
  obtain ⟨n, o, w, r, en, q, fr⟩ := h p e ha hf hc s m args below hfr hS hP hK
  exact ⟨n, o, w, r, en, f _ _ _ _ q, fr⟩
abbrev vS (V : Vf) (b : Nat) : Nat → Int32 := fun i => V 46 (12 * b + i)
def KMB (V : Vf) (b : Nat) (Vm : Vf) (s : St) : Prop := BKf s ∧ BKc V b (s, vS V b) ∧ BKm Vm (s, vS V b) ∧ (∃ ow, RWn V ow (s, vS V b) (mV Vm 0 0 0)) ∧ SCm (mV Vm 0 0 0) (Vm 0 55).toInt.toNat ∧ ((V 3 12).toInt = (Vm 0 55).toInt ∧ dzC V) ∧ ((V 4 7).toInt = (Vm 0 71).toInt ∧ (V 4 8).toInt = (Vm 0 72).toInt ∧ 0 ≤ (Vm 0 71).toInt) ∧ ((Vm 0 54).toInt = 1 → RJm Vm (s, vS V b))
/-- cells of the class that matter -/
def kmQ (fs : List (Nat × Nat)) (cs : List Nat) : Bool := fs.all (fun y => y.1 != 3 && !(([(4, 6), (4, 7), (4, 8), (5, 13), (5, 14)] : List (Nat × Nat)).contains y) && decide (y.1 < 21 ∨ y.1 = 44)) && cs.all (fun c => (c != 3 && c != 4 && c != 5) && decide (c < 21 ∨ (33 ≤ c ∧ c ≤ 35) ∨ (38 ≤ c ∧ c ≤ 40) ∨ 67 ≤ c))
theorem kmQ_k {fs : List (Nat × Nat)} {cs : List Nat} (q : kmQ fs cs = true) {c k : Nat} (h : c = 3 ∨ (c = 4 ∧ (k = 6 ∨ k = 7 ∨ k = 8)) ∨ (c = 5 ∧ (k = 13 ∨ k = 14)) ∨ (21 ≤ c ∧ c ≤ 37 ∧ (c < 33 ∨ 35 < c)) ∨ (41 ≤ c ∧ c ≤ 66 ∧ c ≠ 44)) : wrL fs cs c k = false := by
  unfold kmQ at q
  rw [Bool.and_eq_true, List.all_eq_true, List.all_eq_true] at q
  unfold wrL
  rw [Bool.or_eq_false_iff]
  refine ⟨?_, ?_⟩
  · rw [← Bool.not_eq_true]
    intro z
    have y := q.1 _ (List.contains_iff_mem.mp z)
    rw [Bool.and_eq_true, Bool.and_eq_true] at y
    have y1 : (c != 3) = true := y.1.1
    have y2 : (!(([(4, 6), (4, 7), (4, 8), (5, 13), (5, 14)] : List (Nat × Nat)).contains (c, k))) = true := y.1.2
    have y3 : c < 21 ∨ c = 44 := of_decide_eq_true y.2
    rcases h with h | ⟨h, h2⟩ | ⟨h, h2⟩ | h | h
    · rw [h] at y1
      exact absurd y1 (by decide)
    · rcases h2 with h2 | h2 | h2 <;> (rw [h, h2] at y2; exact absurd y2 (by decide))
    · rcases h2 with h2 | h2 <;> (rw [h, h2] at y2; exact absurd y2 (by decide))
    · omega
    · omega
  · rw [← Bool.not_eq_true]
    intro z
    have y := q.2 _ (List.contains_iff_mem.mp z)
    rw [Bool.and_eq_true, Bool.and_eq_true, Bool.and_eq_true] at y
    have y1 : c ≠ 3 := fun e => by rw [e] at y; exact absurd y.1.1.1 (by decide)
    have y2 : c ≠ 4 := fun e => by rw [e] at y; exact absurd y.1.1.2 (by decide)
    have y3 : c ≠ 5 := fun e => by rw [e] at y; exact absurd y.1.2 (by decide)
    have y4 := of_decide_eq_true y.2
    omega
theorem kmQ.be {fs : List (Nat × Nat)} {cs : List Nat} {V W : Vf} (a : agr fs cs V W) (q : kmQ fs cs = true) {c k : Nat} (h1 : 41 ≤ c) (h2 : c ≤ 66) (h3 : c ≠ 44) : W c k = V c k := a c k (kmQ_k q (by omega))
theorem BKc.mv {V W : Vf} {b : Nat} {s : St} (h : BKc V b (s, vS V b)) (e : ∀ c k, 41 ≤ c → c ≤ 66 → c ≠ 44 → W c k = V c k) : BKc W b (s, vS W b) := by
  have ev : vS W b = vS V b := funext fun i => e 46 _ (by decide) (by decide) (by decide)
  rw [ev]
  exact h.b4 e
def kmR (fs : List (Nat × Nat)) (cs : List Nat) : Bool := bkQ fs cs && mvQ fs cs && rjQ fs cs && fs.all (fun y => !(([(0, 54), (0, 55), (0, 71), (0, 72)] : List (Nat × Nat)).contains y)) && cs.all (fun c => c != 0)
theorem kmR_k {fs : List (Nat × Nat)} {cs : List Nat} (q : kmR fs cs = true) : bkQ fs cs = true ∧ mvQ fs cs = true ∧ rjQ fs cs = true ∧ ∀ k, ([(0, 54), (0, 55), (0, 71), (0, 72)] : List (Nat × Nat)).contains (0, k) = true → wrL fs cs 0 k = false := by
  unfold kmR at q
  rw [Bool.and_eq_true, Bool.and_eq_true, Bool.and_eq_true, Bool.and_eq_true, List.all_eq_true, List.all_eq_true] at q
  refine ⟨q.1.1.1.1, q.1.1.1.2, q.1.1.2, fun k hk => ?_⟩
  unfold wrL
  rw [Bool.or_eq_false_iff]
  refine ⟨?_, ?_⟩
  · rw [← Bool.not_eq_true]
    intro z
    have y := q.1.2 _ (List.contains_iff_mem.mp z)
    rw [hk] at y
    exact absurd y (by decide)
  · rw [← Bool.not_eq_true]
    intro z
    exact absurd (q.2 _ (List.contains_iff_mem.mp z)) (by decide)
section KMs
variable {V W Vm Wm : Vf} {b : Nat} {s : St} {fs fs2 : List (Nat × Nat)} {cs cs2 : List Nat}
theorem KMB.mv (h : KMB V b Vm s) (a : agr fs cs V W) (q : kmQ fs cs = true) (am : agr fs2 cs2 Vm Wm) (qm : kmR fs2 cs2 = true) : KMB W b Wm s := by
  obtain ⟨h1, h2, h3, ⟨ow, h4⟩, h5, ⟨h6, h7⟩, ⟨h8, h9, h10⟩, h11⟩ := h
  obtain ⟨m1, m2, m3, m4⟩ := kmR_k qm
  have e : ∀ c k, 41 ≤ c → c ≤ 66 → c ≠ 44 → W c k = V c k := fun c k a1 a2 a3 => kmQ.be a q a1 a2 a3
  have ev : vS W b = vS V b := funext fun i => e 46 _ (by decide) (by decide) (by decide)
  have em : mV Wm 0 0 0 = mV Vm 0 0 0 := mV_ag am m2
  have e54 : Wm 0 54 = Vm 0 54 := am 0 54 (m4 54 rfl)
  have e55 : Wm 0 55 = Vm 0 55 := am 0 55 (m4 55 rfl)
  have eT : Wm 0 71 = Vm 0 71 := am 0 71 (m4 71 rfl)
  have eK : Wm 0 72 = Vm 0 72 := am 0 72 (m4 72 rfl)
  have c3 : ∀ k, W 3 k = V 3 k := fun k => a 3 k (kmQ_k q (by omega))
  refine ⟨h1, h2.mv e, ?_, ⟨ow, ?_⟩, by rw [em, e55]; exact h5, ⟨by rw [c3, e55]; exact h6, h7.mv (c3 12) (fun i => a 21 i (kmQ_k q (by omega))) (fun i => a 22 i (kmQ_k q (by omega)))⟩, ⟨by rw [a 4 7 (kmQ_k q (by omega)), eT]; exact h8, by rw [a 4 8 (kmQ_k q (by omega)), eK]; exact h9, by rw [eT]; exact h10⟩, fun z => ?_⟩
  · rw [ev]
    exact BKm.ag h3 am m1
  · rw [ev, em]
    exact h4.mv (fun _ _ => rfl) (fun _ _ _ _ => rfl) c3 (a 4 6 (kmQ_k q (by omega))) (a 5 13 (kmQ_k q (by omega))) (a 5 14 (kmQ_k q (by omega))) (fun c k a1 a2 a3 => a c k (kmQ_k q (by omega)))
  · rw [e54] at z
    rw [ev]
    exact RJm.ag (h11 z) am m3
/-- how a get, a call ended on both sides -/
theorem EN_GE {B : Bk} {x : MS} {r rm no : Int} {n : Nat} (ed : (rnM B n x).2.2 = []) (en : ENc W (rnM B n x) r no) (ge : GEo B x Wm rm no) : r = rm ∧ ((W 4 7).toInt = (Wm 0 71).toInt ∧ (W 4 8).toInt = (Wm 0 72).toInt ∧ 0 ≤ (Wm 0 71).toInt) ∧ ∃ sg t k, (rnM B n x).1 = mV Wm sg t k := by
  obtain ⟨sg, t, k, a, ⟨n2, e2, _⟩, cs⟩ := ge
  have e := rn_end ed (show (rnM B n2 x).2.2 = [] from by rw [e2])
  rw [e2] at e
  rw [e] at en
  refine ⟨?_, ?_, sg, t, k, by rw [e]⟩
  · unfold ENc at en
    rcases en with ⟨a1, a2, a3, a4⟩ | ⟨a1, a2, a3, a4⟩ | ⟨a1, a2, a3, a4, a5⟩
    · have a1 : sg = 1 := a1
      have a2 : r = a.toInt := a2
      omega
    · have a1 : sg = 2 := a1
      omega
    · have a1 : sg ≠ 1 := a1
      have a2 : sg ≠ 2 := a2
      omega
  · unfold ENc at en
    rcases en with ⟨a1, a2, a3, a4⟩ | ⟨a1, a2, a3, a4⟩ | ⟨a1, a2, a3, a4, a5⟩
    · have a1 : sg = 1 := a1
      omega
    · have a1 : sg = 2 := a1
      have a3 : (W 4 7).toInt = t := a3
      have a4 : (W 4 8).toInt = k := a4
      omega
    · have a1 : sg ≠ 1 := a1
      have a2 : sg ≠ 2 := a2
      omega
theorem GEo.go {B : Bk} {x : MS} {rm no : Int} (ge : GEo B x Wm rm no) : GOs B x := by
  obtain ⟨sg, t, k, a, h, _⟩ := ge
  exact ⟨_, h, rfl⟩
theorem RWn.z0 {ow : Nat → Nat} {B : Bk} {sg t k : Int} (h : RWn W ow B (mV Wm sg t k)) : RWn W ow B (mV Wm 0 0 0) := by
  rw [← mZ_V (sg := sg) (t := t) (k := k)]
  exact h.z
/-- behind a get, a call -/
def kmC (fs : List (Nat × Nat)) (cs : List Nat) : Bool := fs.all (fun y => decide (y ≠ (3, 12) ∧ (y.1 < 21 ∨ y.1 = 44))) && cs.all (fun c => decide (c ≠ 3 ∧ c ≠ 21 ∧ c ≠ 22 ∧ (c < 41 ∨ 67 ≤ c)))
theorem kmC_k (q : kmC fs cs = true) {c k : Nat} (h : (c = 3 ∧ k = 12) ∨ c = 21 ∨ c = 22 ∨ (41 ≤ c ∧ c ≤ 66 ∧ c ≠ 44)) : wrL fs cs c k = false := by
  unfold kmC at q
  rw [Bool.and_eq_true, List.all_eq_true, List.all_eq_true] at q
  unfold wrL
  rw [Bool.or_eq_false_iff]
  refine ⟨?_, ?_⟩
  · rw [← Bool.not_eq_true]
    intro z
    have y := of_decide_eq_true (q.1 _ (List.contains_iff_mem.mp z))
    have y1 : c < 21 ∨ c = 44 := y.2
    rcases h with ⟨h, h2⟩ | h | h | h
    · exact y.1 (by rw [h, h2])
    · omega
    · omega
    · omega
  · rw [← Bool.not_eq_true]
    intro z
    have y := of_decide_eq_true (q.2 _ (List.contains_iff_mem.mp z))
    omega
def kmD (fs : List (Nat × Nat)) (cs : List Nat) : Bool := bkQ fs cs && fs.all (fun y => y.1 == 0 && y.2 != 55 && y.2 != 54) && cs.all (fun c => c != 0 && c != 56 && c != 57 && c != 58)
theorem kmD_k (q : kmD fs cs = true) : bkQ fs cs = true ∧ wrL fs cs 0 55 = false ∧ wrL fs cs 0 54 = false ∧ ∀ c k, c = 56 ∨ c = 57 ∨ c = 58 → wrL fs cs c k = false := by
  unfold kmD at q
  rw [Bool.and_eq_true, Bool.and_eq_true, List.all_eq_true, List.all_eq_true] at q
  have f : ∀ k, k = 55 ∨ k = 54 → wrL fs cs 0 k = false := fun k hk => by
    unfold wrL
    rw [Bool.or_eq_false_iff]
    refine ⟨?_, ?_⟩
    · rw [← Bool.not_eq_true]
      intro z
      have y := q.1.2 _ (List.contains_iff_mem.mp z)
      rw [Bool.and_eq_true, Bool.and_eq_true] at y
      rcases hk with hk | hk
      · rw [hk] at y
        exact absurd y.1.2 (by decide)
      · rw [hk] at y
        exact absurd y.2 (by decide)
    · rw [← Bool.not_eq_true]
      intro z
      have y := q.2 _ (List.contains_iff_mem.mp z)
      rw [Bool.and_eq_true, Bool.and_eq_true, Bool.and_eq_true] at y
      exact absurd y.1.1.1 (by decide)
  refine ⟨q.1.1, f 55 (Or.inl rfl), f 54 (Or.inr rfl), fun c k hc => ?_⟩
  unfold wrL
  rw [Bool.or_eq_false_iff]
  refine ⟨?_, ?_⟩
  · rw [← Bool.not_eq_true]
    intro z
    have y := q.1.2 _ (List.contains_iff_mem.mp z)
    rw [Bool.and_eq_true, Bool.and_eq_true] at y
    have y1 : c = 0 := eq_of_beq y.1.1
    omega
  · rw [← Bool.not_eq_true]
    intro z
    have y := q.2 _ (List.contains_iff_mem.mp z)
    rw [Bool.and_eq_true, Bool.and_eq_true, Bool.and_eq_true] at y
    rcases hc with hc | hc | hc
    · rw [hc] at y
      exact absurd y.1.1.2 (by decide)
    · rw [hc] at y
      exact absurd y.1.2 (by decide)
    · rw [hc] at y
      exact absurd y.2 (by decide)
theorem KMB.ran (h : KMB V b Vm s) (a : agr fs cs V W) (q : kmC fs cs = true) (am : agr fs2 cs2 Vm Wm) (qm : kmD fs2 cs2 = true) (rn : ∃ ow, RWn W ow (s, vS V b) (mV Wm 0 0 0)) (ca : (W 4 7).toInt = (Wm 0 71).toInt ∧ (W 4 8).toInt = (Wm 0 72).toInt ∧ 0 ≤ (Wm 0 71).toInt) (rj : (Wm 0 54).toInt = 1 → RJm Wm (s, vS V b)) : KMB W b Wm s := by
  obtain ⟨h1, h2, h3, _, h5, ⟨h6, h7⟩, _, _⟩ := h
  obtain ⟨m1, m2, _, m4⟩ := kmD_k qm
  have e : ∀ c k, 41 ≤ c → c ≤ 66 → c ≠ 44 → W c k = V c k := fun c k a1 a2 a3 => a c k (kmC_k q (by omega))
  have ev : vS W b = vS V b := funext fun i => e 46 _ (by decide) (by decide) (by decide)
  have e55 : Wm 0 55 = Vm 0 55 := am 0 55 m2
  refine ⟨h1, h2.mv e, by rw [ev]; exact BKm.ag h3 am m1, by rw [ev]; exact rn, by rw [e55]; exact SCm.eq h5 (fun j => congrArg Int32.toInt (am 56 j (m4 56 j (by omega)))) (fun j => congrArg Int32.toInt (am 57 j (m4 57 j (by omega)))) (fun j => congrArg Int32.toInt (am 58 j (m4 58 j (by omega)))), ⟨by rw [a 3 12 (kmC_k q (by omega)), e55]; exact h6, h7.mv (a 3 12 (kmC_k q (by omega))) (fun i => a 21 i (kmC_k q (by omega))) (fun i => a 22 i (kmC_k q (by omega)))⟩, ca, by rw [ev]; exact rj⟩
end KMs
theorem qZi.mono {D : va_G} {S : Type} {p1 p2 : Int32 → S → Prop} {w : S → va_W} {ty : S → List (ClassId × FieldType)} {c n : S → Nat} {A : Nat → Prop} {a : Array Value} {s : State} {o : Outcome} {t : State} (h : qZi D p1 w ty c n A a s o t) (f : ∀ r u, p1 r u → p2 r u) : qZi D p2 w ty c n A a s o t := by
  obtain ⟨⟨r, u, h1, h2, h3⟩, h4⟩ := h
  exact ⟨⟨r, u, h1, f r u h2, h3⟩, h4⟩


abbrev r_x_h_get10 (Z : XZ) : Room := { frames := 8, cells := zcc Z, slots := zss Z, locals := 181 }
abbrev q_x_h_get10 (D : va_G) (ks : KS) (ad : Nat → Nat) (kk : Nat → ClassId) (V : Vf) (L : Lf) (Z : XZ) (p0 : Int32) (p1 : Int32) (b : Nat) (gB : Bk) (gm : Mm) (A : Nat → Prop) : Array Value → State → Outcome → State → Prop := qZi D (fun (r : Int32) (u : Vf × Lf × XZ) => rgd bX u.1 ∧ agr [(0, 9), (3, 13), (3, 14), (3, 15), (4, 5), (4, 6), (4, 7), (4, 8), (5, 6), (5, 7), (5, 8), (5, 9), (5, 10), (5, 11), (5, 12), (5, 13), (5, 14)] [24, 25, 26, 27, 28, 29, 30, 31, 32, 33, 34, 35, 36, 37, 39, 40, 67, 68, 69, 70, 71, 72, 73, 74, 75, 76, 77, 78, 79, 80, 81, 82, 83, 84, 85] V u.1 ∧ u.2.1 = L ∧ ZL Z u.2.2 ∧ (HI u.1 u.2.2 b) ∧ (((V 0 8).toInt = 1 ∧ (0 ≤ p0.toInt ∧ p0.toInt < (V 3 12).toInt ∧ (V 23 (Int32.toNatClampNeg p0)).toInt = 1) ∧ (0 ≤ p1.toInt ∧ p1.toInt < ((nC gB : Nat) : Int) ∧ thP gB.1.1 (svB gB) p1.toInt.toNat = true)) → GOs gB (mU gm 0 1 0, 0, [Froot0 0 p1.toInt p0.toInt 0]) → ∃ n, (rnM gB n (mU gm 0 1 0, 0, [Froot0 0 p1.toInt p0.toInt 0])).2.2 = [] ∧ (∃ ow, RWn u.1 ow gB (rnM gB n (mU gm 0 1 0, 0, [Froot0 0 p1.toInt p0.toInt 0])).1) ∧ ENc u.1 (rnM gB n (mU gm 0 1 0, 0, [Froot0 0 p1.toInt p0.toInt 0])) r.toInt (-1)) ∧ (¬ ((V 0 8).toInt = 1 ∧ (0 ≤ p0.toInt ∧ p0.toInt < (V 3 12).toInt ∧ (V 23 (Int32.toNatClampNeg p0)).toInt = 1) ∧ (0 ≤ p1.toInt ∧ p1.toInt < ((nC gB : Nat) : Int) ∧ thP gB.1.1 (svB gB) p1.toInt.toNat = true)) → r.toInt = -1 ∧ (∃ ow, RWn u.1 ow gB (mU gm 0 1 0)) ∧ (u.1 4 7).toInt = 0 ∧ (u.1 4 8).toInt = 0)) (fun u => xw ad kk u.1 u.2.1 u.2.2) (fun u => xty kk u.2.2) (fun u => zcc Z - zcc u.2.2) (fun u => zss Z - zss u.2.2) A
theorem x_h_get10 (l : Launch) (D : va_G) (ks : KS) (sz : Nat) (ad : Nat → Nat) (kk : Nat → ClassId) (V : Vf) (L : Lf) (Z : XZ) (p0 : Int32) (p1 : Int32) (b : Nat) (gB : Bk) (gm : Mm) (hMV : rgd bX V) (hb2 : b < 2) (shk : (V 0 6).toInt = (b : Int)) (hi : HI V Z b) (rnq : ∃ ow, RWn V ow gB gm) (bc : BKc V b gB) (g46 : gm 0 4 = 0 ∧ gm 0 6 = 0) (wfq : (V 0 8).toInt = 1 → WFB gB) : Met l yX11_get (Cond.code yX11_get cX11_get 3 (some .int) :: GW) (r_x_h_get10 Z) (va_Pc [.ref (ad 0), .int p0, .int p1] (gp D ks (xw ad kk V L Z) (xty kk Z) sz)) (q_x_h_get10 D ks ad kk V L Z p0 p1 b gB gm (va_A (xw ad kk V L Z) sz)) (zcc Z) (zss Z) (va_A (xw ad kk V L Z) sz) := by
  by_cases g : ((V 0 8).toInt = 1 ∧ (0 ≤ p0.toInt ∧ p0.toInt < (V 3 12).toInt ∧ (V 23 (Int32.toNatClampNeg p0)).toInt = 1) ∧ (0 ≤ p1.toInt ∧ p1.toInt < ((nC gB : Nat) : Int) ∧ thP gB.1.1 (svB gB) p1.toInt.toNat = true)) → GOs gB (mU gm 0 1 0, 0, [Froot0 0 p1.toInt p0.toInt 0])
  · exact Met.mono (x_h_get9 l D ks sz ad kk V L Z p0 p1 b gB gm hMV hb2 shk hi rnq bc g46 wfq g) (fun a s o t q => qZi.mono q (fun r u h9 => ⟨h9.1, h9.2.1, h9.2.2.1, h9.2.2.2.1, h9.2.2.2.2.1, fun c9 _ => h9.2.2.2.2.2.1 c9, h9.2.2.2.2.2.2⟩))
  · exact Met.mono (x_h_get l D ks sz ad kk V L Z p0 p1 b hMV hb2 shk hi) (fun a s o t q => qZi.mono q (fun r u h9 => ⟨h9.1, h9.2.1, h9.2.2.1, h9.2.2.2.1, h9.2.2.2.2, fun c9 g9 => absurd (fun _ => g9) g, fun n9 => absurd (fun c9 => absurd c9 n9) g⟩))

abbrev r_x_h_call10 (Z : XZ) : Room := { frames := 8, cells := zcc Z, slots := zss Z, locals := 181 }
abbrev q_x_h_call10 (D : va_G) (ks : KS) (ad : Nat → Nat) (kk : Nat → ClassId) (V : Vf) (L : Lf) (Z : XZ) (p0 : Int32) (p1 : Int32) (p2 : Int32) (p3 : Int32) (b : Nat) (gB : Bk) (gm : Mm) (A : Nat → Prop) : Array Value → State → Outcome → State → Prop := qZi D (fun (r : Int32) (u : Vf × Lf × XZ) => rgd bX u.1 ∧ agr [(0, 9), (3, 13), (3, 14), (3, 15), (4, 5), (4, 6), (4, 7), (4, 8), (4, 9), (5, 6), (5, 7), (5, 8), (5, 9), (5, 10), (5, 11), (5, 12), (5, 13), (5, 14)] [24, 25, 26, 27, 28, 29, 30, 31, 32, 33, 34, 35, 36, 37, 39, 40, 67, 68, 69, 70, 71, 72, 73, 74, 75, 76, 77, 78, 79, 80, 81, 82, 83, 84, 85] V u.1 ∧ u.2.1 = L ∧ ZL Z u.2.2 ∧ (HI u.1 u.2.2 b) ∧ (((0 ≤ p0.toInt ∧ p0.toInt < (V 3 12).toInt ∧ (V 23 (Int32.toNatClampNeg p0)).toInt = 1) ∧ (0 ≤ p1.toInt ∧ p1.toInt < (V 3 13).toInt ∧ (V 28 (Int32.toNatClampNeg p1)).toInt = 1) ∧ 0 ≤ p2.toInt ∧ p2.toInt < (V 43 (5 * b + 3)).toInt) → GOs gB (mU gm 0 1 0, 0, [Fcall0 1 p1.toInt (gm 1 p1.toInt.toNat) p0.toInt p2.toInt p3]) → ∃ n, (rnM gB n (mU gm 0 1 0, 0, [Fcall0 1 p1.toInt (gm 1 p1.toInt.toNat) p0.toInt p2.toInt p3])).2.2 = [] ∧ (∃ ow, RWn u.1 ow gB (rnM gB n (mU gm 0 1 0, 0, [Fcall0 1 p1.toInt (gm 1 p1.toInt.toNat) p0.toInt p2.toInt p3])).1) ∧ ENc u.1 (rnM gB n (mU gm 0 1 0, 0, [Fcall0 1 p1.toInt (gm 1 p1.toInt.toNat) p0.toInt p2.toInt p3])) r.toInt (0)) ∧ (¬ ((0 ≤ p0.toInt ∧ p0.toInt < (V 3 12).toInt ∧ (V 23 (Int32.toNatClampNeg p0)).toInt = 1) ∧ (0 ≤ p1.toInt ∧ p1.toInt < (V 3 13).toInt ∧ (V 28 (Int32.toNatClampNeg p1)).toInt = 1) ∧ 0 ≤ p2.toInt ∧ p2.toInt < (V 43 (5 * b + 3)).toInt) → r.toInt = 0 ∧ (∃ ow, RWn u.1 ow gB (mU gm 0 1 0)) ∧ (u.1 4 7).toInt = 0 ∧ (u.1 4 8).toInt = 0)) (fun u => xw ad kk u.1 u.2.1 u.2.2) (fun u => xty kk u.2.2) (fun u => zcc Z - zcc u.2.2) (fun u => zss Z - zss u.2.2) A
theorem x_h_call10 (l : Launch) (D : va_G) (ks : KS) (sz : Nat) (ad : Nat → Nat) (kk : Nat → ClassId) (V : Vf) (L : Lf) (Z : XZ) (p0 : Int32) (p1 : Int32) (p2 : Int32) (p3 : Int32) (b : Nat) (gB : Bk) (gm : Mm) (hMV : rgd bX V) (hb2 : b < 2) (shk : (V 0 6).toInt = (b : Int)) (hi : HI V Z b) (rnq : ∃ ow, RWn V ow gB gm) (bc : BKc V b gB) (g46 : gm 0 4 = 0 ∧ gm 0 6 = 0) (wfo : 0 < (V 3 13).toInt → WFB gB) : Met l yX11_call (Cond.code yX11_call cX11_call 5 (some .int) :: GW) (r_x_h_call10 Z) (va_Pc [.ref (ad 0), .int p0, .int p1, .int p2, .int p3] (gp D ks (xw ad kk V L Z) (xty kk Z) sz)) (q_x_h_call10 D ks ad kk V L Z p0 p1 p2 p3 b gB gm (va_A (xw ad kk V L Z) sz)) (zcc Z) (zss Z) (va_A (xw ad kk V L Z) sz) := by
  by_cases g : ((0 ≤ p0.toInt ∧ p0.toInt < (V 3 12).toInt ∧ (V 23 (Int32.toNatClampNeg p0)).toInt = 1) ∧ (0 ≤ p1.toInt ∧ p1.toInt < (V 3 13).toInt ∧ (V 28 (Int32.toNatClampNeg p1)).toInt = 1) ∧ 0 ≤ p2.toInt ∧ p2.toInt < (V 43 (5 * b + 3)).toInt) → GOs gB (mU gm 0 1 0, 0, [Fcall0 1 p1.toInt (gm 1 p1.toInt.toNat) p0.toInt p2.toInt p3])
  · exact Met.mono (x_h_call9 l D ks sz ad kk V L Z p0 p1 p2 p3 b gB gm hMV hb2 shk hi rnq bc g46 wfo g) (fun a s o t q => qZi.mono q (fun r u h9 => ⟨h9.1, h9.2.1, h9.2.2.1, h9.2.2.2.1, h9.2.2.2.2.1, fun c9 _ => h9.2.2.2.2.2.1 c9, h9.2.2.2.2.2.2⟩))
  · exact Met.mono (x_h_call l D ks sz ad kk V L Z p0 p1 p2 p3 b hMV hb2 shk hi) (fun a s o t q => qZi.mono q (fun r u h9 => ⟨h9.1, h9.2.1, h9.2.2.1, h9.2.2.2.1, h9.2.2.2.2, fun c9 g9 => absurd (fun _ => g9) g, fun n9 => absurd (fun c9 => absurd c9 n9) g⟩))

abbrev r_x_h_close10 (Z : XZ) : Room := { frames := 8, cells := zcc Z, slots := zss Z, locals := 181 }
abbrev q_x_h_close10 (D : va_G) (ks : KS) (ad : Nat → Nat) (kk : Nat → ClassId) (V : Vf) (L : Lf) (Z : XZ) (p0 : Int32) (b : Nat) (gB : Bk) (gm : Mm) (A : Nat → Prop) : Array Value → State → Outcome → State → Prop := qZi D (fun (r : Int32) (u : Vf × Lf × XZ) => rgd bX u.1 ∧ agr [(0, 9), (3, 13), (3, 14), (3, 15), (4, 5), (4, 6), (5, 6), (5, 7), (5, 8), (5, 9), (5, 10), (5, 11), (5, 12), (5, 13), (5, 14), (44, 0)] [23, 24, 25, 26, 27, 28, 29, 30, 31, 32, 33, 34, 35, 36, 37, 39, 40, 67, 68, 69, 70, 71, 72, 73, 74, 75, 76, 77, 78, 79, 80, 81, 82, 83, 84, 85] V u.1 ∧ u.2.1 = L ∧ ZL Z u.2.2 ∧ (HI u.1 u.2.2 b) ∧ ((u.1 44 0).toInt ≤ (V 44 0).toInt + 340) ∧ ((0 ≤ p0.toInt ∧ p0.toInt < (V 3 12).toInt ∧ (V 23 (Int32.toNatClampNeg p0)).toInt = 1) → ∀ (gj : Nat) (gy : CS), CLs gB (V 3 12).toInt.toNat p0.toInt gj (mU gm 0 1 0, 0, 0) gy → gj ≤ 340 → gy.1 11 p0.toInt.toNat = 0 → (∃ ow, RWn u.1 ow gB (mU gy.1 11 0 1)) ∧ ((gy.2.1 = 0 ∧ r.toInt = gy.2.2) ∨ (gy.2.1 ≠ 0 ∧ r.toInt = -1))) ∧ (¬ (0 ≤ p0.toInt ∧ p0.toInt < (V 3 12).toInt ∧ (V 23 (Int32.toNatClampNeg p0)).toInt = 1) → r.toInt = -1 ∧ (∃ ow, RWn u.1 ow gB (mU gm 0 1 0))) ∧ ((u.1 4 7).toInt = (V 4 7).toInt ∧ (u.1 4 8).toInt = (V 4 8).toInt)) (fun u => xw ad kk u.1 u.2.1 u.2.2) (fun u => xty kk u.2.2) (fun u => zcc Z - zcc u.2.2) (fun u => zss Z - zss u.2.2) A
theorem x_h_close10 (l : Launch) (D : va_G) (ks : KS) (sz : Nat) (ad : Nat → Nat) (kk : Nat → ClassId) (V : Vf) (L : Lf) (Z : XZ) (p0 : Int32) (b : Nat) (gB : Bk) (gm : Mm) (hMV : rgd bX V) (hb2 : b < 2) (shk : (V 0 6).toInt = (b : Int)) (hi : HI V Z b) (h44 : (V 44 0).toInt + 340 ≤ 250000) (rnq : ∃ ow, RWn V ow gB gm) (bc : BKc V b gB) (g46 : gm 0 4 = 0 ∧ gm 0 6 = 0) (wfo : 0 < (V 3 13).toInt → WFB gB) (dzq : dzC V) : Met l yX11_close (Cond.code yX11_close cX11_close 7 (some .int) :: GW) (r_x_h_close10 Z) (va_Pc [.ref (ad 0), .int p0] (gp D ks (xw ad kk V L Z) (xty kk Z) sz)) (q_x_h_close10 D ks ad kk V L Z p0 b gB gm (va_A (xw ad kk V L Z) sz)) (zcc Z) (zss Z) (va_A (xw ad kk V L Z) sz) := by
  by_cases c : 0 ≤ p0.toInt ∧ p0.toInt < (V 3 12).toInt ∧ (V 23 (Int32.toNatClampNeg p0)).toInt = 1
  · by_cases g : ∃ gj gy, CLs gB (V 3 12).toInt.toNat p0.toInt gj (mU gm 0 1 0, 0, 0) gy ∧ gj ≤ 340 ∧ gy.1 11 p0.toInt.toNat = 0
    · obtain ⟨gj0, gy0, c1, c2, c3⟩ := g
      exact Met.mono (x_h_close9 l D ks sz ad kk V L Z p0 b gB gm gy0 gj0 hMV hb2 shk hi h44 rnq bc g46 wfo dzq (fun _ => ⟨c1, c2, c3⟩)) (fun a s o t q => qZi.mono q (fun r u h9 => ⟨h9.1, h9.2.1, h9.2.2.1, h9.2.2.2.1, h9.2.2.2.2.1, h9.2.2.2.2.2.1, fun c9 gj gy d1 d2 d3 => (by rw [CLs.uq gj gj0 _ gy gy0 d1 c1 d3 c3]; exact h9.2.2.2.2.2.2.1 c9), h9.2.2.2.2.2.2.2⟩))
    · exact Met.mono (x_h_close l D ks sz ad kk V L Z p0 b hMV hb2 shk hi h44) (fun a s o t q => qZi.mono q (fun r u h9 => ⟨h9.1, h9.2.1, h9.2.2.1, h9.2.2.2.1, h9.2.2.2.2.1, h9.2.2.2.2.2, fun c9 gj gy d1 d2 d3 => absurd ⟨gj, gy, d1, d2, d3⟩ g, fun n9 => absurd c n9, ⟨congrArg Int32.toInt (h9.2.1 4 7 rfl), congrArg Int32.toInt (h9.2.1 4 8 rfl)⟩⟩))
  · exact Met.mono (x_h_close9 l D ks sz ad kk V L Z p0 b gB gm (gm, 0, 0) 0 hMV hb2 shk hi h44 rnq bc g46 wfo dzq (fun h => absurd h c)) (fun a s o t q => qZi.mono q (fun r u h9 => ⟨h9.1, h9.2.1, h9.2.2.1, h9.2.2.2.1, h9.2.2.2.2.1, h9.2.2.2.2.2.1, fun c9 => absurd c9 c, h9.2.2.2.2.2.2.2⟩))

