/-! what the law keeps of the BOOK's content -/
def LKd (V V2 : Vf) : Prop := (∀ b k, b < 2 → k < 12 → V2 46 (12 * b + k) = V 46 (12 * b + k)) ∧ (∀ i, i < 48 → V2 49 i = V 49 i ∧ V2 50 i = V 50 i ∧ V2 51 i = V 51 i ∧ V2 52 i = V 52 i ∧ V2 53 i = V 53 i ∧ V2 54 i = V 54 i ∧ V2 55 i = V 55 i) ∧ (∀ i k, i < 48 → k < 8 → V2 58 (8 * i + k) = V 58 (8 * i + k) ∧ V2 59 (8 * i + k) = V 59 (8 * i + k) ∧ V2 60 (8 * i + k) = V 60 (8 * i + k)) ∧ V2 0 8 = V 0 8
theorem LKd.of {D : va_G} {ad : Nat → Nat} {kk : Nat → ClassId} {V V2 : Vf} {L L2 : Lf} {Z : XZ} {H : Heap} (h : va_P D vwCl (xw ad kk V L Z) H) (h' : va_P D vwCl (xw ad kk V2 L2 Z) H) : LKd V V2 := by
  refine ⟨fun b k hb hk => ?_, fun i hi => ?_, fun i k hi hk => ?_, ?_⟩
  · have z := at_i (h' _ _ (xgsettingValues hb)) (h _ _ (xgsettingValues hb)) hk
    have z : (if k < 12 then V2 46 (12 * b + k) else 0) = (if k < 12 then V 46 (12 * b + k) else 0) := z
    rw [if_pos hk, if_pos hk] at z
    exact z
  · have f : ∀ k, k < 13 → vp_V (xfComp ad V2 i) k = vp_V (xfComp ad V i) k := fun k hk => at_o (h' _ _ (xgComp hi)) (h _ _ (xgComp hi)) (r := (RX3, TX3, 13)) rfl hk
    have z49 : Value.int (V2 49 i) = Value.int (V 49 i) := f 4 (by decide)
    injection z49 with z49
    have z50 : Value.int (V2 50 i) = Value.int (V 50 i) := f 5 (by decide)
    injection z50 with z50
    have z51 : Value.int (V2 51 i) = Value.int (V 51 i) := f 6 (by decide)
    injection z51 with z51
    have z52 : Value.int (V2 52 i) = Value.int (V 52 i) := f 7 (by decide)
    injection z52 with z52
    have z53 : Value.int (V2 53 i) = Value.int (V 53 i) := f 8 (by decide)
    injection z53 with z53
    have z54 : Value.int (V2 54 i) = Value.int (V 54 i) := f 9 (by decide)
    injection z54 with z54
    have z55 : Value.int (V2 55 i) = Value.int (V 55 i) := f 10 (by decide)
    injection z55 with z55
    exact ⟨z49, z50, z51, z52, z53, z54, z55⟩
  · have z58 : (if k < 8 then V2 58 (8 * i + k) else 0) = (if k < 8 then V 58 (8 * i + k) else 0) := at_i (h' _ _ (xgneedTypes hi)) (h _ _ (xgneedTypes hi)) hk
    rw [if_pos hk, if_pos hk] at z58
    have z59 : (if k < 8 then V2 59 (8 * i + k) else 0) = (if k < 8 then V 59 (8 * i + k) else 0) := at_i (h' _ _ (xgneedWords hi)) (h _ _ (xgneedWords hi)) hk
    rw [if_pos hk, if_pos hk] at z59
    have z60 : (if k < 8 then V2 60 (8 * i + k) else 0) = (if k < 8 then V 60 (8 * i + k) else 0) := at_i (h' _ _ (xgneedKinds hi)) (h _ _ (xgneedKinds hi)) hk
    rw [if_pos hk, if_pos hk] at z60
    exact ⟨z58, z59, z60⟩
  · have z : Value.int (V2 0 8) = Value.int (V 0 8) := at_o (h' _ _ xgHouse) (h _ _ xgHouse) (r := (RX11, TX11, 10)) rfl (k := 8) (by decide)
    injection z with z
def LKn (V V2 : Vf) : Prop := (∀ k, k < 24 → V2 18 k = V 18 k) ∧ (∀ k, k < 1152 → V2 21 k = V 21 k) ∧ (∀ k, k < 48 → V2 22 k = V 22 k ∧ V2 23 k = V 23 k ∧ V2 24 k = V 24 k ∧ V2 25 k = V 25 k ∧ V2 26 k = V 26 k ∧ V2 27 k = V 27 k) ∧ (∀ k, k < 384 → V2 28 k = V 28 k ∧ V2 29 k = V 29 k ∧ V2 30 k = V 30 k ∧ V2 31 k = V 31 k) ∧ V2 0 54 = V 0 54
theorem LKn.of {D : va_G} {ad : Nat → Nat} {kk : Nat → ClassId} {k1 : Nat} {V V2 : Vf} {L L2 : Lf} {H : Heap} (h : va_P D vwCl (mw ad kk k1 V L) H) (h' : va_P D vwCl (mw ad kk k1 V2 L2) H) : LKn V V2 := by
  refine ⟨fun k hk => at_i (h' 11 _ rfl) (h 11 _ rfl) hk, fun k hk => at_i (h' 14 _ rfl) (h 14 _ rfl) hk, fun k hk => ⟨at_i (h' 15 _ rfl) (h 15 _ rfl) hk, at_i (h' 16 _ rfl) (h 16 _ rfl) hk, at_i (h' 17 _ rfl) (h 17 _ rfl) hk, at_i (h' 18 _ rfl) (h 18 _ rfl) hk, at_i (h' 19 _ rfl) (h 19 _ rfl) hk, at_i (h' 20 _ rfl) (h 20 _ rfl) hk⟩, fun k hk => ⟨at_i (h' 21 _ rfl) (h 21 _ rfl) hk, at_i (h' 22 _ rfl) (h 22 _ rfl) hk, at_i (h' 23 _ rfl) (h 23 _ rfl) hk, at_i (h' 24 _ rfl) (h 24 _ rfl) hk⟩, ?_⟩
  have z : Value.int (V2 0 54) = Value.int (V 0 54) := at_o (h' 0 _ rfl) (h 0 _ rfl) (r := (RX12, TX12, 100)) rfl (k := 54) (by decide)
  injection z with z
theorem COc.lk {V V2 : Vf} {b : Nat} {s : St} (h : COc V2 b s) (ln : LNb s) (hb : b < 2) (l : LKd V V2) : COc V b s := fun c hc => by
  unfold LNb at ln
  have z := h c hc
  have a := l.2.1 (24 * b + c) (by omega)
  refine ⟨?_, ?_, z.2.2.1, fun j hj => ?_⟩
  · have q := z.1
    unfold HDr at q ⊢
    rw [← a.2.1, ← a.2.2.1, ← a.2.2.2.1, ← a.2.2.2.2.1, ← a.2.2.2.2.2.1, ← a.2.2.2.2.2.2]
    exact q
  · rw [← a.1]
    exact z.2.1
  · have n8 := z.2.2.1
    have q := z.2.2.2 j hj
    have e := l.2.2.1 (24 * b + c) j (by omega) (by omega)
    unfold NEr at q ⊢
    rw [← e.1, ← e.2.1, ← e.2.2]
    exact q
theorem COM.lk {V V2 : Vf} {q : Nat} {s : St} (h : COM V2 q s) (ln : LNb s) (hq : q < 2) (l : LKn V V2) : COM V q s := fun c hc => by
  unfold LNb at ln
  have z := h c hc
  have a := l.2.2.1 (24 * q + c) (by omega)
  refine ⟨?_, ?_, z.2.2.1, fun j hj => ?_⟩
  · have y := z.1
    unfold HDn at y ⊢
    rw [← a.1, ← a.2.1, ← a.2.2.1, ← a.2.2.2.1, ← a.2.2.2.2.1]
    refine ⟨fun g hg => ?_, y.2⟩
    rw [← l.2.1 _ (by omega)]
    exact y.1 g hg
  · rw [← a.2.2.2.2.2]
    exact z.2.1
  · have n8 := z.2.2.1
    have y := z.2.2.2 j hj
    have e := l.2.2.2.1 (8 * (24 * q + c) + j) (by omega)
    unfold NEm at y ⊢
    rw [← e.1, ← e.2.1, ← e.2.2.1, ← e.2.2.2]
    exact y
theorem COc.row {V W : Vf} {b b1 : Nat} {s : St} (h : COc V b s) (ln : LNb s) (hb : b + b1 = 1) (f : frX (xR b1) V W) : COc W b s := fun c hc => by
  unfold LNb at ln
  have z := h c hc
  have a : ∀ x, 49 ≤ x → x ≤ 55 → W x (24 * b + c) = V x (24 * b + c) := fun x h1 h2 => f x _ ⟨by omega, by omega⟩ (by
    have e : xR b1 x = (24 * b1, 24 * b1 + 24) := by
      unfold xR
      rw [if_neg (by omega), if_neg (by omega), if_neg (by omega), if_neg (by omega), if_neg (by omega), if_neg (by omega), if_pos (by omega)]
    rw [e]
    show 24 * b + c < 24 * b1 ∨ 24 * b1 + 24 ≤ 24 * b + c
    omega)
  have n8 := z.2.2.1
  have e : ∀ x j, 58 ≤ x → x ≤ 60 → j < 8 → W x (8 * (24 * b + c) + j) = V x (8 * (24 * b + c) + j) := fun x j h1 h2 hj => f x _ ⟨by omega, by omega⟩ (by
    have e : xR b1 x = (192 * b1, 192 * b1 + 192) := by
      unfold xR
      rw [if_neg (by omega), if_neg (by omega), if_neg (by omega), if_neg (by omega), if_neg (by omega), if_neg (by omega), if_neg (by omega), if_pos (by omega)]
    rw [e]
    show 8 * (24 * b + c) + j < 192 * b1 ∨ 192 * b1 + 192 ≤ 8 * (24 * b + c) + j
    omega)
  refine ⟨?_, ?_, n8, fun j hj => ?_⟩
  · have q := z.1
    unfold HDr at q ⊢
    rw [a 50 (by decide) (by decide), a 51 (by decide) (by decide), a 52 (by decide) (by decide), a 53 (by decide) (by decide), a 54 (by decide) (by decide), a 55 (by decide) (by decide)]
    exact q
  · rw [a 49 (by decide) (by decide)]
    exact z.2.1
  · have q := z.2.2.2 j hj
    unfold NEr at q ⊢
    rw [e 58 j (by decide) (by decide) (by omega), e 59 j (by decide) (by decide) (by omega), e 60 j (by decide) (by decide) (by omega)]
    exact q
theorem frX.se {V W : Vf} {b b1 i : Nat} (f : frX (xR b1) V W) (hb : b + b1 = 1) (hi : i < 12) : W 46 (12 * b + i) = V 46 (12 * b + i) := f 46 _ ⟨by decide, by decide⟩ (show 12 * b + i < 12 * b1 ∨ 12 * b1 + 12 ≤ 12 * b + i from by omega)
theorem frX.nm {V W : Vf} {b1 : Nat} (f : frX (xR b1) V W) : ∀ k, ¬ (5 * b1 ≤ k ∧ k < 5 * b1 + 5) → W 43 k = V 43 k := fun k hk => f 43 k ⟨by decide, by decide⟩ (show k < 5 * b1 ∨ 5 * b1 + 5 ≤ k from by omega)
theorem COM.row {V W U : Vf} {q nx : Nat} {s : St} (h : COM V q s) (ln : LNb s) (hq : q + nx = 1) (f : fr (tH nx) V W) (r : RoW 22 24 nx V U) (l : ∀ k, k < 48 → U 22 k = W 22 k) : COM W q s := fun c hc => by
  unfold LNb at ln
  have z := h c hc
  have e22 : W 22 (24 * q + c) = V 22 (24 * q + c) := (l _ (by omega)).symm.trans (r _ (by omega))
  have g21 : ∀ g, g < 24 → W 21 (24 * (24 * q + c) + g) = V 21 (24 * (24 * q + c) + g) := fun g hg => f 21 _ rfl (show _ < 576 * nx ∨ 576 * nx + 576 ≤ _ from by omega)
  have e23 : W 23 (24 * q + c) = V 23 (24 * q + c) := f 23 _ rfl (show 24 * q + c < 24 * nx ∨ 24 * nx + 24 ≤ 24 * q + c from by omega)
  have e24 : W 24 (24 * q + c) = V 24 (24 * q + c) := f 24 _ rfl (show 24 * q + c < 24 * nx ∨ 24 * nx + 24 ≤ 24 * q + c from by omega)
  have e25 : W 25 (24 * q + c) = V 25 (24 * q + c) := f 25 _ rfl (show 24 * q + c < 24 * nx ∨ 24 * nx + 24 ≤ 24 * q + c from by omega)
  have e26 : W 26 (24 * q + c) = V 26 (24 * q + c) := f 26 _ rfl (show 24 * q + c < 24 * nx ∨ 24 * nx + 24 ≤ 24 * q + c from by omega)
  have e27 : W 27 (24 * q + c) = V 27 (24 * q + c) := f 27 _ rfl (show 24 * q + c < 24 * nx ∨ 24 * nx + 24 ≤ 24 * q + c from by omega)
  have n8 := z.2.2.1
  refine ⟨?_, ?_, n8, fun j hj => ?_⟩
  · have y := z.1
    unfold HDn at y ⊢
    rw [e22, e23, e24, e25, e26]
    exact ⟨fun g hg => by rw [g21 g hg]; exact y.1 g hg, y.2⟩
  · rw [e27]
    exact z.2.1
  · have y := z.2.2.2 j hj
    have e28 : W 28 (8 * (24 * q + c) + j) = V 28 (8 * (24 * q + c) + j) := f 28 _ rfl (show 8 * (24 * q + c) + j < 192 * nx ∨ 192 * nx + 192 ≤ 8 * (24 * q + c) + j from by omega)
    have e29 : W 29 (8 * (24 * q + c) + j) = V 29 (8 * (24 * q + c) + j) := f 29 _ rfl (show 8 * (24 * q + c) + j < 192 * nx ∨ 192 * nx + 192 ≤ 8 * (24 * q + c) + j from by omega)
    have e30 : W 30 (8 * (24 * q + c) + j) = V 30 (8 * (24 * q + c) + j) := f 30 _ rfl (show 8 * (24 * q + c) + j < 192 * nx ∨ 192 * nx + 192 ≤ 8 * (24 * q + c) + j from by omega)
    have e31 : W 31 (8 * (24 * q + c) + j) = V 31 (8 * (24 * q + c) + j) := f 31 _ rfl (show 8 * (24 * q + c) + j < 192 * nx ∨ 192 * nx + 192 ≤ 8 * (24 * q + c) + j from by omega)
    unfold NEm at y ⊢
    rw [e28, e29, e30, e31]
    exact y
theorem fr.se {V W : Vf} {q nx i : Nat} (f : fr (tH nx) V W) (hq : q + nx = 1) (hi : i < 12) : W 18 (12 * q + i) = V 18 (12 * q + i) := f 18 _ rfl (show 12 * q + i < 12 * nx ∨ 12 * nx + 12 ≤ 12 * q + i from by omega)
def KEP (V : Vf) (b : Nat) (Vm : Vf) (q : Nat) (s : St) : Prop := LNb s ∧ WHs s ∧ COc V b s ∧ COM Vm q s ∧ SEQ V b Vm q (s.2.1 1).length ∧ (V 0 8).toInt = (Vm 0 54).toInt ∧ ((V 0 8).toInt = 1 → (CHK s.1 (svc V b (s.2.1 1).length) (s.2.1 2).length).1 = 0)
def LN5 (V : Vf) (L : Lf) (b : Nat) (Vm : Vf) (Lm : Lf) (q : Nat) : Prop := ∃ s : St, (TBc V L b s ∧ TBm Vm Lm q s (s.2.1 2) ∧ NKs s) ∧ KEP V b Vm q s
theorem SEQ.sv {V Vm : Vf} {b q n : Nat} (h : SEQ V b Vm q n) : svm Vm q n = svc V b n := by
  unfold svm svc
  funext i
  split
  · rw [h i ‹_›]
  · rfl
theorem KEP.mv {V V1 Vm Vm1 : Vf} {b q : Nat} {s : St} (h : KEP V b Vm q s) (r : V1 0 8 = V 0 8) (e46 : V1 46 = V 46) (e49 : V1 49 = V 49) (e50 : V1 50 = V 50) (e51 : V1 51 = V 51) (e52 : V1 52 = V 52) (e53 : V1 53 = V 53) (e54 : V1 54 = V 54) (e55 : V1 55 = V 55) (e58 : V1 58 = V 58) (e59 : V1 59 = V 59) (e60 : V1 60 = V 60) (rm : Vm1 0 54 = Vm 0 54) (f18 : Vm1 18 = Vm 18) (f21 : Vm1 21 = Vm 21) (f22 : Vm1 22 = Vm 22) (f23 : Vm1 23 = Vm 23) (f24 : Vm1 24 = Vm 24) (f25 : Vm1 25 = Vm 25) (f26 : Vm1 26 = Vm 26) (f27 : Vm1 27 = Vm 27) (f28 : Vm1 28 = Vm 28) (f29 : Vm1 29 = Vm 29) (f30 : Vm1 30 = Vm 30) (f31 : Vm1 31 = Vm 31) : KEP V1 b Vm1 q s := by
  obtain ⟨a, w, c, d, g, x, y⟩ := h
  refine ⟨a, w, COc.ag c e49 e50 e51 e52 e53 e54 e55 e58 e59 e60, COM.ag d f21 f22 f23 f24 f25 f26 f27 f28 f29 f30 f31, fun i hi => by rw [e46, f18]; exact g i hi, by rw [r, rm]; exact x, fun z => ?_⟩
  rw [r] at z
  rw [svc_fo rfl e46]
  exact y z
theorem LN5.mv {V V1 Vm Vm1 : Vf} {L L1 Lm Lm1 : Lf} {b q : Nat} (h : LN5 V L b Vm Lm q) (t : ∀ s, (TBc V L b s ∧ TBm Vm Lm q s (s.2.1 2) ∧ NKs s) → TBc V1 L1 b s ∧ TBm Vm1 Lm1 q s (s.2.1 2) ∧ NKs s) (k : ∀ s, KEP V b Vm q s → KEP V1 b Vm1 q s) : LN5 V1 L1 b Vm1 Lm1 q := by
  obtain ⟨s, a, d⟩ := h
  exact ⟨s, t s a, k s d⟩
/-- a BOOK that was read -/
theorem KEP.new {V V9 Vm Vm9 : Vf} {b q : Nat} {s : St} (c : CNc V9 b s) (m : CNm Vm9 q s) (w : WHs s) (hb : b < 2) (hq : q < 2) (l : LKd V V9) (n : LKn Vm Vm9) (r : (V 0 8).toInt = 0) (rm : (Vm 0 54).toInt = 0) : KEP V b Vm q s := by
  refine ⟨c.1, w, COc.lk c.2.2.2 c.1 hb l, COM.lk m.2.2.2 c.1 hq n, fun i hi => ?_, by omega, fun z => by omega⟩
  have l1 := c.1
  unfold LNb at l1
  have e1 := c.2.1 i hi
  have e2 := m.2.1 i hi
  rw [← l.1 b i hb (by omega), ← n.1 (12 * q + i) (by omega)]
  exact Int32.toInt_inj.mp (e1.trans e2.symm)
/-- a BOOK that was refused -/
theorem KEP.old {V V8 V1 Vm Vm1 : Vf} {b b1 q nx : Nat} {s : St} (h : KEP V b Vm q s) (hb : b + b1 = 1) (hq : q + nx = 1) (f : frX (xR b1) V V8) (l : LKd V1 V8) (e8 : (V8 0 8).toInt = (V 0 8).toInt) (g : fr (tH nx) Vm Vm1) (r : RoW 22 24 nx Vm Vm1) (e54 : Vm1 0 54 = Vm 0 54) : KEP V1 b Vm1 q s := by
  obtain ⟨a, w, c, d, se, x, y⟩ := h
  have a' := a
  unfold LNb at a'
  have s46 : ∀ i, i < 12 → V1 46 (12 * b + i) = V 46 (12 * b + i) := fun i hi => (l.1 b i (by omega) hi).symm.trans (f.se hb hi)
  have r8 : (V1 0 8).toInt = (V 0 8).toInt := by rw [← l.2.2.2]; exact e8
  refine ⟨a, w, COc.lk (COc.row c a hb f) a (by omega) l, COM.row d a hq g r (fun k hk => rfl), fun i hi => ?_, by rw [r8, e54]; exact x, fun z => ?_⟩
  · rw [s46 i (by omega), g.se hq (by omega)]
    exact se i hi
  · rw [r8] at z
    have e : svc V1 b (s.2.1 1).length = svc V b (s.2.1 1).length := by
      unfold svc
      funext i
      split
      · rw [s46 i (by omega)]
      · rfl
    rw [e]
    exact y z
/-- a setting that was set on both sides, or on neither -/
theorem KEP.set {V V1 Vm Vm1 U : Vf} {b q k : Nat} {v : Int32} {s : St} (h : KEP V b Vm q s) (hq : q < 2) (r : V1 0 8 = V 0 8) (e49 : V1 49 = V 49) (e50 : V1 50 = V 50) (e51 : V1 51 = V 51) (e52 : V1 52 = V 52) (e53 : V1 53 = V 53) (e54 : V1 54 = V 54) (e55 : V1 55 = V 55) (e58 : V1 58 = V 58) (e59 : V1 59 = V 59) (e60 : V1 60 = V 60) (rm : Vm1 0 54 = Vm 0 54) (f21 : Vm1 21 = Vm 21) (f22 : Vm1 22 = Vm 22) (f23 : Vm1 23 = Vm 23) (f24 : Vm1 24 = Vm 24) (f25 : Vm1 25 = Vm 25) (f26 : Vm1 26 = Vm 26) (f27 : Vm1 27 = Vm 27) (f28 : Vm1 28 = Vm 28) (f29 : Vm1 29 = Vm 29) (f30 : Vm1 30 = Vm 30) (f31 : Vm1 31 = Vm 31) (hr : (V 0 8).toInt = 0) (c1 : V1 46 (12 * b + k) = v) (c2 : ∀ i, i ≠ 12 * b + k → V1 46 i = V 46 i) (m1 : U 18 (12 * q + k) = v) (m2 : ∀ i, i ≠ 12 * q + k → U 18 i = Vm 18 i) (l : LKn Vm1 U) : KEP V1 b Vm1 q s := by
  obtain ⟨a, w, c, d, g, x, y⟩ := h
  refine ⟨a, w, COc.ag c e49 e50 e51 e52 e53 e54 e55 e58 e59 e60, COM.ag d f21 f22 f23 f24 f25 f26 f27 f28 f29 f30 f31, fun i hi => ?_, by rw [r, rm]; exact x, fun z => by rw [r] at z; omega⟩
  unfold LNb at a
  rw [← l.1 _ (by omega)]
  by_cases e : i = k
  · subst e
    rw [c1, m1]
  · rw [c2 _ (by omega), m2 _ (by omega)]
    exact g i hi
theorem KEP.same {V V1 Vm Vm1 U : Vf} {b q : Nat} {s : St} (h : KEP V b Vm q s) (hq : q < 2) (r : V1 0 8 = V 0 8) (e46 : V1 46 = V 46) (e49 : V1 49 = V 49) (e50 : V1 50 = V 50) (e51 : V1 51 = V 51) (e52 : V1 52 = V 52) (e53 : V1 53 = V 53) (e54 : V1 54 = V 54) (e55 : V1 55 = V 55) (e58 : V1 58 = V 58) (e59 : V1 59 = V 59) (e60 : V1 60 = V 60) (rm : Vm1 0 54 = Vm 0 54) (u18 : U 18 = Vm 18) (f21 : Vm1 21 = Vm 21) (f22 : Vm1 22 = Vm 22) (f23 : Vm1 23 = Vm 23) (f24 : Vm1 24 = Vm 24) (f25 : Vm1 25 = Vm 25) (f26 : Vm1 26 = Vm 26) (f27 : Vm1 27 = Vm 27) (f28 : Vm1 28 = Vm 28) (f29 : Vm1 29 = Vm 29) (f30 : Vm1 30 = Vm 30) (f31 : Vm1 31 = Vm 31) (l : LKn Vm1 U) : KEP V1 b Vm1 q s := by
  obtain ⟨a, w, c, d, g, x, y⟩ := h
  refine ⟨a, w, COc.ag c e49 e50 e51 e52 e53 e54 e55 e58 e59 e60, COM.ag d f21 f22 f23 f24 f25 f26 f27 f28 f29 f30 f31, fun i hi => ?_, by rw [r, rm]; exact x, fun z => by rw [r] at z; rw [svc_fo rfl e46]; exact y z⟩
  unfold LNb at a
  rw [← l.1 _ (by omega), e46, u18]
  exact g i hi
/-- check(): both answer alike -/
theorem KEP.chk {V V1 Vm Vm1 U : Vf} {b q : Nat} {s : St} {x y : Int} (h : KEP V b Vm q s) (e46 : V1 46 = V 46) (e49 : V1 49 = V 49) (e50 : V1 50 = V 50) (e51 : V1 51 = V 51) (e52 : V1 52 = V 52) (e53 : V1 53 = V 53) (e54 : V1 54 = V 54) (e55 : V1 55 = V 55) (e58 : V1 58 = V 58) (e59 : V1 59 = V 59) (e60 : V1 60 = V 60) (f18 : Vm1 18 = Vm 18) (f21 : Vm1 21 = Vm 21) (f22 : Vm1 22 = Vm 22) (f23 : Vm1 23 = Vm 23) (f24 : Vm1 24 = Vm 24) (f25 : Vm1 25 = Vm 25) (f26 : Vm1 26 = Vm 26) (f27 : Vm1 27 = Vm 27) (f28 : Vm1 28 = Vm 28) (f29 : Vm1 29 = Vm 29) (f30 : Vm1 30 = Vm 30) (f31 : Vm1 31 = Vm 31) (l : LKn Vm1 U) (hx : x = (((CHK s.1 (svc V b (s.2.1 1).length) (s.2.1 2).length).1 : Nat) : Int)) (hy : y = (((CHK s.1 (svc V b (s.2.1 1).length) (s.2.1 2).length).1 : Nat) : Int)) (rx : ((V1 0 8).toInt = 1 ∧ x = 0) ∨ ((V1 0 8).toInt = 0 ∧ x ≠ 0)) (ry : ((U 0 54).toInt = 1 ∧ ((Vm 0 54).toInt = 1 ∨ y = 0)) ∨ ((U 0 54).toInt = 0 ∧ (Vm 0 54).toInt = 0 ∧ y ≠ 0)) : KEP V1 b Vm1 q s := by
  obtain ⟨a, w, c, d, g, z, o⟩ := h
  have u54 : (Vm1 0 54).toInt = (U 0 54).toInt := congrArg Int32.toInt l.2.2.2.2.symm
  refine ⟨a, w, COc.ag c e49 e50 e51 e52 e53 e54 e55 e58 e59 e60, COM.ag d f21 f22 f23 f24 f25 f26 f27 f28 f29 f30 f31, fun i hi => by rw [e46, f18]; exact g i hi, ?_, fun q9 => ?_⟩
  · rw [u54]
    rcases ry with ⟨r1, r2 | r2⟩ | r1
    · have o1 := o (by omega)
      omega
    · omega
    · omega
  · rw [svc_fo rfl e46]
    omega
theorem KEP.z {V Vm : Vf} {b q : Nat} (r : V 0 8 = 0) (rm : Vm 0 54 = 0) : KEP V b Vm q St0 := by
  refine ⟨⟨Nat.zero_le _, Nat.zero_le _, Nat.zero_le _⟩, fun c hc => absurd hc (Nat.not_lt_zero _), fun c hc => absurd hc (Nat.not_lt_zero _), fun c hc => absurd hc (Nat.not_lt_zero _), fun i hi => absurd hi (Nat.not_lt_zero _), by rw [r, rm], fun z => ?_⟩
  rw [r] at z
  exact absurd z (by decide)



