section
/-! the class: its world as a function of numbers. Z: the frames made so far, and the links, which grow -/
abbrev XZ : Type := (Nat → Nat) × Nat × Nat × Nat × ClassId × ClassId × Nat
def XZ.fa (Z : XZ) : Nat → Nat := Z.1
def XZ.nf (Z : XZ) : Nat := Z.2.1
def XZ.l1 (Z : XZ) : Nat := Z.2.2.1
def XZ.l2 (Z : XZ) : Nat := Z.2.2.2.1
def XZ.k1 (Z : XZ) : ClassId := Z.2.2.2.2.1
def XZ.k2 (Z : XZ) : ClassId := Z.2.2.2.2.2.1
def XZ.ln (Z : XZ) : Nat := Z.2.2.2.2.2.2
def rfN (ad : Nat → Nat) (b : Nat) (x : Int32) : Value := if x.toInt < 0 then .null else .ref (ad (b + Int32.toNatClampNeg x))
def xcap (n : Nat) : Nat := match n % 5 with
  | 0 => 24
  | 1 => 12
  | 2 => 24
  | _ => 20
def xfHouse (ad : Nat → Nat) (V : Vf) (L : Lf) (Z : XZ) : List Value := [.ref (ad 6), .ref (ad 1), .ref (ad 2), .ref (ad 3), .ref (ad 4), .ref (ad 5), .ref (ad (38 + Int32.toNatClampNeg (V 0 6))), .ref (ad (38 + Int32.toNatClampNeg (V 0 7))), .int (V 0 8), .int (V 0 9)]
def xfReader (ad : Nat → Nat) (V : Vf) (L : Lf) (Z : XZ) : List Value := [.ref (ad 6), rfN ad 38 (V 1 1), rfN ad 72 (V 1 2), .int (V 1 3), .int (V 1 4), .long (L 1 5), .int (V 1 6), .int (V 1 7), .int (V 1 8)]
def xfChecker (ad : Nat → Nat) (V : Vf) (L : Lf) (Z : XZ) : List Value := [.ref (ad 12), .ref (ad 13), .ref (ad 14), .ref (ad 15), .ref (ad 16), .ref (ad 17), rfN ad 38 (V 2 6), .int (V 2 7)]
def xfStock (ad : Nat → Nat) (V : Vf) (L : Lf) (Z : XZ) : List Value := [.ref (ad 18), .ref (ad 19), .ref (ad 20), .ref (ad 21), .ref (ad 22), .ref (ad 23), .ref (ad 24), .ref (ad 25), .ref (ad 26), .ref (ad 27), .ref Z.l1, .ref Z.l2, .int (V 3 12), .int (V 3 13), .int (V 3 14), .int (V 3 15)]
def xfNotes (ad : Nat → Nat) (V : Vf) (L : Lf) (Z : XZ) : List Value := [.ref (ad 30), .ref (ad 31), .ref (ad 32), .ref (ad 33), .ref (ad 34), .int (V 4 5), .int (V 4 6), .int (V 4 7), .int (V 4 8), .int (V 4 9)]
def xfMachine (ad : Nat → Nat) (V : Vf) (L : Lf) (Z : XZ) : List Value := [.ref (ad 3), .ref (ad 4), .ref (ad 35), .ref (ad 36), .ref (ad 37), .ref (ad (38 + Int32.toNatClampNeg (V 5 5))), .int (V 5 6), .int (V 5 7), .int (V 5 8), .int (V 5 9), .int (V 5 10), .int (V 5 11), .int (V 5 12), .int (V 5 13), .int (V 5 14)]
def xfTape (ad : Nat → Nat) (V : Vf) (L : Lf) (Z : XZ) : List Value := [.ref (ad 7), .ref (ad 8), .ref (ad 9), .ref (ad 10), .ref (ad 11), .int (V 6 5), .int (V 6 6), .int (V 6 7), .int (V 6 8), .int (V 6 9), .int (V 6 10), .long (L 6 11)]
def xfBook (ad : Nat → Nat) (V : Vf) (i : Nat) : List Value := [.ref (ad (40 + (5 * i + 0))), .ref (ad (40 + (5 * i + 1))), .ref (ad (40 + (5 * i + 2))), .ref (ad (40 + (5 * i + 3))), .ref (ad (40 + (5 * i + 4))), .ref (ad (60 + i)), .ref (ad (62 + i)), .ref (ad (64 + i)), .ref (ad (66 + i)), .ref (ad (68 + i)), .ref (ad (70 + i)), .int (V 41 i), .int (V 42 i)]
def xfNames (ad : Nat → Nat) (V : Vf) (i : Nat) : List Value := [.ref (ad (50 + i)), .int (V 43 i)]
def xfComp (ad : Nat → Nat) (V : Vf) (i : Nat) : List Value := [.ref (ad (120 + i)), .ref (ad (168 + i)), .ref (ad (216 + i)), .ref (ad (264 + i)), .int (V 49 i), .int (V 50 i), .int (V 51 i), .int (V 52 i), .int (V 53 i), .int (V 54 i), .int (V 55 i), .int (V 56 i), .int (V 57 i)]
def xfWrap (V : Vf) (i : Nat) : List Value := [.int (V 62 i), .int (V 63 i), .int (V 64 i), .int (V 65 i), .int (V 66 i)]
def xfFrame (V : Vf) (i : Nat) : List Value := [.int (V 67 i), .int (V 68 i), .int (V 69 i), .int (V 70 i), .int (V 71 i), .int (V 72 i), .int (V 73 i), .int (V 74 i), .int (V 75 i), .int (V 76 i), .int (V 77 i), .int (V 78 i), .int (V 79 i), .int (V 80 i), .int (V 81 i), .int (V 82 i), .int (V 83 i), .int (V 84 i), .int (V 85 i)]
def xs (ad : Nat → Nat) (kk : Nat → ClassId) (V : Vf) (L : Lf) (Z : XZ) : va_W := (ad 0, .inr (11, xfHouse ad V L Z)) :: (ad 1, .inr (1, xfReader ad V L Z)) :: (ad 2, .inr (2, xfChecker ad V L Z)) :: (ad 3, .inr (8, xfStock ad V L Z)) :: (ad 4, .inr (7, xfNotes ad V L Z)) :: (ad 5, .inr (5, xfMachine ad V L Z)) :: (ad 6, .inr (9, xfTape ad V L Z)) :: (ad 7, .inl (kk 7, 4000, .inl (V 10))) :: (ad 8, .inl (kk 8, 28, .inr (.inl (L 11)))) :: (ad 9, .inl (kk 9, 4001, .inl (V 12))) :: (ad 10, .inl (kk 10, 4001, .inl (V 13))) :: (ad 11, .inl (kk 11, 4001, .inr (.inl (L 14)))) :: (ad 12, .inl (kk 12, 100, .inl (V 15))) :: (ad 13, .inl (kk 13, 100, .inl (V 16))) :: (ad 14, .inl (kk 14, 100, .inl (V 17))) :: (ad 15, .inl (kk 15, 2400, .inl (V 18))) :: (ad 16, .inl (kk 16, 24, .inl (V 19))) :: (ad 17, .inl (kk 17, 24, .inl (V 20))) :: (ad 18, .inl (kk 18, 40, .inl (V 21))) :: (ad 19, .inl (kk 19, 40, .inl (V 22))) :: (ad 20, .inl (kk 20, 40, .inl (V 23))) :: (ad 21, .inl (kk 21, 40, .inl (V 24))) :: (ad 22, .inl (kk 22, 960, .inl (V 25))) :: (ad 23, .inl (kk 23, 300, .inl (V 26))) :: (ad 24, .inl (kk 24, 300, .inl (V 27))) :: (ad 25, .inl (kk 25, 300, .inl (V 28))) :: (ad 26, .inl (kk 26, 300, .inl (V 29))) :: (ad 27, .inl (kk 27, 2400, .inl (V 30))) :: (Z.l1, .inl (Z.k1, Z.ln, .inl (V 31))) :: (Z.l2, .inl (Z.k2, Z.ln, .inl (V 32))) :: (ad 30, .inl (kk 30, 100, .inl (V 33))) :: (ad 31, .inl (kk 31, 100, .inl (V 34))) :: (ad 32, .inl (kk 32, 100, .inl (V 35))) :: (ad 33, .inl (kk 33, 300, .inl (V 36))) :: (ad 34, .inl (kk 34, 300, .inl (V 37))) :: (ad 35, .inl (kk 35, 400, .inr (.inr (.inr (.inr (fun q => if q < Z.nf then some (Z.fa q) else none)))))) :: (ad 36, .inl (kk 36, 2048, .inl (V 39))) :: (ad 37, .inl (kk 37, 300, .inl (V 40))) :: []
def xeBook (ad : Nat → Nat) (kk : Nat → ClassId) (V : Vf) (L : Lf) (Z : XZ) (i : Nat) : Nat × va_E := (ad (38 + i), .inr (0, xfBook ad V i))
def xeNames (ad : Nat → Nat) (kk : Nat → ClassId) (V : Vf) (L : Lf) (Z : XZ) (i : Nat) : Nat × va_E := (ad (40 + i), .inr (6, xfNames ad V i))
def xewords (ad : Nat → Nat) (kk : Nat → ClassId) (V : Vf) (L : Lf) (Z : XZ) (i : Nat) : Nat × va_E := (ad (50 + i), .inl (kk (50 + i), xcap i, .inr (.inl (fun q => if q < 24 then L 44 (24 * i + q) else 0))))
def xetypeUnder (ad : Nat → Nat) (kk : Nat → ClassId) (V : Vf) (L : Lf) (Z : XZ) (i : Nat) : Nat × va_E := (ad (60 + i), .inl (kk (60 + i), 24, .inl (fun q => if q < 24 then V 45 (24 * i + q) else 0)))
def xesettingValues (ad : Nat → Nat) (kk : Nat → ClassId) (V : Vf) (L : Lf) (Z : XZ) (i : Nat) : Nat × va_E := (ad (62 + i), .inl (kk (62 + i), 12, .inl (fun q => if q < 12 then V 46 (12 * i + q) else 0)))
def xecomps (ad : Nat → Nat) (kk : Nat → ClassId) (V : Vf) (L : Lf) (Z : XZ) (i : Nat) : Nat × va_E := (ad (64 + i), .inl (kk (64 + i), 24, .inr (.inr (.inr (.inr (fun q => if q < 24 then some (ad (72 + (24 * i + q))) else none))))))
def xewrapsA (ad : Nat → Nat) (kk : Nat → ClassId) (V : Vf) (L : Lf) (Z : XZ) (i : Nat) : Nat × va_E := (ad (66 + i), .inl (kk (66 + i), 12, .inr (.inr (.inr (.inr (fun q => if q < 12 then some (ad (312 + (12 * i + q))) else none))))))
def xewrapOrder (ad : Nat → Nat) (kk : Nat → ClassId) (V : Vf) (L : Lf) (Z : XZ) (i : Nat) : Nat × va_E := (ad (68 + i), .inl (kk (68 + i), 12, .inl (fun q => if q < 12 then V 47 (12 * i + q) else 0)))
def xecode (ad : Nat → Nat) (kk : Nat → ClassId) (V : Vf) (L : Lf) (Z : XZ) (i : Nat) : Nat × va_E := (ad (70 + i), .inl (kk (70 + i), 8200, .inl (fun q => if q < 8200 then V 48 (8200 * i + q) else 0)))
def xeComp (ad : Nat → Nat) (kk : Nat → ClassId) (V : Vf) (L : Lf) (Z : XZ) (i : Nat) : Nat × va_E := (ad (72 + i), .inr (3, xfComp ad V i))
def xeneedTypes (ad : Nat → Nat) (kk : Nat → ClassId) (V : Vf) (L : Lf) (Z : XZ) (i : Nat) : Nat × va_E := (ad (120 + i), .inl (kk (120 + i), 8, .inl (fun q => if q < 8 then V 58 (8 * i + q) else 0)))
def xeneedWords (ad : Nat → Nat) (kk : Nat → ClassId) (V : Vf) (L : Lf) (Z : XZ) (i : Nat) : Nat × va_E := (ad (168 + i), .inl (kk (168 + i), 8, .inl (fun q => if q < 8 then V 59 (8 * i + q) else 0)))
def xeneedKinds (ad : Nat → Nat) (kk : Nat → ClassId) (V : Vf) (L : Lf) (Z : XZ) (i : Nat) : Nat × va_E := (ad (216 + i), .inl (kk (216 + i), 8, .inl (fun q => if q < 8 then V 60 (8 * i + q) else 0)))
def xemethodStarts (ad : Nat → Nat) (kk : Nat → ClassId) (V : Vf) (L : Lf) (Z : XZ) (i : Nat) : Nat × va_E := (ad (264 + i), .inl (kk (264 + i), 20, .inl (fun q => if q < 20 then V 61 (20 * i + q) else 0)))
def xeWrap (ad : Nat → Nat) (kk : Nat → ClassId) (V : Vf) (L : Lf) (Z : XZ) (i : Nat) : Nat × va_E := (ad (312 + i), .inr (10, xfWrap V i))
def xeFrame (ad : Nat → Nat) (kk : Nat → ClassId) (V : Vf) (L : Lf) (Z : XZ) (i : Nat) : Nat × va_E := (Z.fa i, .inr (4, xfFrame V i))
def xb (ad : Nat → Nat) (kk : Nat → ClassId) (V : Vf) (L : Lf) (Z : XZ) (j : Nat) : Nat × va_E :=
  if j < 2 then xeBook ad kk V L Z j else
  if j < 12 then xeNames ad kk V L Z (j - 2) else
  if j < 22 then xewords ad kk V L Z (j - 12) else
  if j < 24 then xetypeUnder ad kk V L Z (j - 22) else
  if j < 26 then xesettingValues ad kk V L Z (j - 24) else
  if j < 28 then xecomps ad kk V L Z (j - 26) else
  if j < 30 then xewrapsA ad kk V L Z (j - 28) else
  if j < 32 then xewrapOrder ad kk V L Z (j - 30) else
  if j < 34 then xecode ad kk V L Z (j - 32) else
  if j < 82 then xeComp ad kk V L Z (j - 34) else
  if j < 130 then xeneedTypes ad kk V L Z (j - 82) else
  if j < 178 then xeneedWords ad kk V L Z (j - 130) else
  if j < 226 then xeneedKinds ad kk V L Z (j - 178) else
  if j < 274 then xemethodStarts ad kk V L Z (j - 226) else
  if j < 298 then xeWrap ad kk V L Z (j - 274) else xeFrame ad kk V L Z (j - 298)
def xw (ad : Nat → Nat) (kk : Nat → ClassId) (V : Vf) (L : Lf) (Z : XZ) : va_W := xs ad kk V L Z ++ (List.range (298 + Z.nf)).map (xb ad kk V L Z)
def xts (kk : Nat → ClassId) (Z : XZ) : List (ClassId × FieldType) := (kk 7, .byte) :: (kk 8, .long) :: (kk 9, .int) :: (kk 10, .int) :: (kk 11, .long) :: (kk 12, .int) :: (kk 13, .int) :: (kk 14, .int) :: (kk 15, .int) :: (kk 16, .int) :: (kk 17, .int) :: (kk 18, .int) :: (kk 19, .int) :: (kk 20, .boolean) :: (kk 21, .int) :: (kk 22, .int) :: (kk 23, .int) :: (kk 24, .int) :: (kk 25, .int) :: (kk 26, .int) :: (kk 27, .int) :: (Z.k1, .int) :: (Z.k2, .int) :: (kk 30, .int) :: (kk 31, .int) :: (kk 32, .int) :: (kk 33, .int) :: (kk 34, .int) :: (kk 35, .object RX4) :: (kk 36, .int) :: (kk 37, .int) :: []
def xty (kk : Nat → ClassId) (Z : XZ) : List (ClassId × FieldType) := xts kk Z ++ (List.range 298).map (fun j => (kk (38 + j), if 12 ≤ j ∧ j < 22 then FieldType.long else if 26 ≤ j ∧ j < 28 then .object RX3 else if 28 ≤ j ∧ j < 30 then .object RX10 else .int))
theorem up2_ne {V : Vf} {c k c' : Nat} {v : Int32} (h : c' ≠ c) : up2 V c k v c' = V c' := by
  unfold up2
  rw [if_neg h]
theorem up2_pl {V : Vf} {c k c' k' : Nat} {v : Int32} (h : ¬ (c' = c ∧ k' = k)) : up2 V c k v c' k' = V c' k' := by
  by_cases hc : c' = c
  · subst hc
    exact up2_k rfl (fun e => h ⟨rfl, e⟩)
  · exact up2_o rfl hc
theorem up2_ss {V : Vf} {c k : Nat} {v : Int32} : up2 V c k v c k = v := up2_s rfl
theorem upL_pl {L : Lf} {c k c' k' : Nat} {v : Int64} (h : ¬ (c' = c ∧ k' = k)) : upL L c k v c' k' = L c' k' := by
  unfold upL
  by_cases hc : c' = c
  · rw [if_pos hc]
    unfold vp_updL
    rw [if_neg (fun e => h ⟨hc, e⟩)]
  · rw [if_neg hc]
/-- to which of the many a place belongs -/
def xow (c k : Nat) : Option Nat :=
  if 41 ≤ c ∧ c ≤ 42 then some (k) else
  if c = 43 then some (2 + k) else
  if c = 45 then some (22 + k / 24) else
  if c = 46 then some (24 + k / 12) else
  if c = 47 then some (30 + k / 12) else
  if c = 48 then some (32 + k / 8200) else
  if 49 ≤ c ∧ c ≤ 57 then some (34 + k) else
  if c = 58 then some (82 + k / 8) else
  if c = 59 then some (130 + k / 8) else
  if c = 60 then some (178 + k / 8) else
  if c = 61 then some (226 + k / 20) else
  if 62 ≤ c ∧ c ≤ 66 then some (274 + k) else
  if 67 ≤ c ∧ c ≤ 85 then some (298 + k) else none
theorem xeBook_up {ad : Nat → Nat} {kk : Nat → ClassId} {V : Vf} {L : Lf} {Z : XZ} {c k : Nat} {v : Int32} {i : Nat} (h : xow c k ≠ some (i)) : xeBook ad kk (up2 V c k v) L Z i = xeBook ad kk V L Z i := by
  unfold xeBook xfBook
  have e : ∀ c', True → xow c' i = some (i) → up2 V c k v c' i = V c' i := fun c' _ h2 => up2_pl (fun a => h (by rw [← a.1, ← a.2]; exact h2))
  rw [e 41 trivial rfl, e 42 trivial rfl]
theorem xeNames_up {ad : Nat → Nat} {kk : Nat → ClassId} {V : Vf} {L : Lf} {Z : XZ} {c k : Nat} {v : Int32} {i : Nat} (h : xow c k ≠ some (2 + i)) : xeNames ad kk (up2 V c k v) L Z i = xeNames ad kk V L Z i := by
  unfold xeNames xfNames
  have e : ∀ c', True → xow c' i = some (2 + i) → up2 V c k v c' i = V c' i := fun c' _ h2 => up2_pl (fun a => h (by rw [← a.1, ← a.2]; exact h2))
  rw [e 43 trivial rfl]
theorem xewords_up {ad : Nat → Nat} {kk : Nat → ClassId} {V : Vf} {L : Lf} {Z : XZ} {c k : Nat} {v : Int32} {i : Nat} : xewords ad kk (up2 V c k v) L Z i = xewords ad kk V L Z i := rfl
theorem xetypeUnder_up {ad : Nat → Nat} {kk : Nat → ClassId} {V : Vf} {L : Lf} {Z : XZ} {c k : Nat} {v : Int32} {i : Nat} (h : xow c k ≠ some (22 + i)) : xetypeUnder ad kk (up2 V c k v) L Z i = xetypeUnder ad kk V L Z i := by
  unfold xetypeUnder
  have e : (fun q => if q < 24 then up2 V c k v 45 (24 * i + q) else 0) = (fun q => if q < 24 then V 45 (24 * i + q) else 0) := by
    funext q
    by_cases hq : q < 24
    · rw [if_pos hq, if_pos hq]
      refine up2_pl (fun a => h ?_)
      rw [← a.1, ← a.2]
      show some (22 + (24 * i + q) / 24) = some (22 + i)
      have e2 : (24 * i + q) / 24 = i := by omega
      rw [e2]
    · rw [if_neg hq, if_neg hq]
  rw [e]
theorem xesettingValues_up {ad : Nat → Nat} {kk : Nat → ClassId} {V : Vf} {L : Lf} {Z : XZ} {c k : Nat} {v : Int32} {i : Nat} (h : xow c k ≠ some (24 + i)) : xesettingValues ad kk (up2 V c k v) L Z i = xesettingValues ad kk V L Z i := by
  unfold xesettingValues
  have e : (fun q => if q < 12 then up2 V c k v 46 (12 * i + q) else 0) = (fun q => if q < 12 then V 46 (12 * i + q) else 0) := by
    funext q
    by_cases hq : q < 12
    · rw [if_pos hq, if_pos hq]
      refine up2_pl (fun a => h ?_)
      rw [← a.1, ← a.2]
      show some (24 + (12 * i + q) / 12) = some (24 + i)
      have e2 : (12 * i + q) / 12 = i := by omega
      rw [e2]
    · rw [if_neg hq, if_neg hq]
  rw [e]
theorem xecomps_up {ad : Nat → Nat} {kk : Nat → ClassId} {V : Vf} {L : Lf} {Z : XZ} {c k : Nat} {v : Int32} {i : Nat} : xecomps ad kk (up2 V c k v) L Z i = xecomps ad kk V L Z i := rfl
theorem xewrapsA_up {ad : Nat → Nat} {kk : Nat → ClassId} {V : Vf} {L : Lf} {Z : XZ} {c k : Nat} {v : Int32} {i : Nat} : xewrapsA ad kk (up2 V c k v) L Z i = xewrapsA ad kk V L Z i := rfl
theorem xewrapOrder_up {ad : Nat → Nat} {kk : Nat → ClassId} {V : Vf} {L : Lf} {Z : XZ} {c k : Nat} {v : Int32} {i : Nat} (h : xow c k ≠ some (30 + i)) : xewrapOrder ad kk (up2 V c k v) L Z i = xewrapOrder ad kk V L Z i := by
  unfold xewrapOrder
  have e : (fun q => if q < 12 then up2 V c k v 47 (12 * i + q) else 0) = (fun q => if q < 12 then V 47 (12 * i + q) else 0) := by
    funext q
    by_cases hq : q < 12
    · rw [if_pos hq, if_pos hq]
      refine up2_pl (fun a => h ?_)
      rw [← a.1, ← a.2]
      show some (30 + (12 * i + q) / 12) = some (30 + i)
      have e2 : (12 * i + q) / 12 = i := by omega
      rw [e2]
    · rw [if_neg hq, if_neg hq]
  rw [e]
theorem xecode_up {ad : Nat → Nat} {kk : Nat → ClassId} {V : Vf} {L : Lf} {Z : XZ} {c k : Nat} {v : Int32} {i : Nat} (h : xow c k ≠ some (32 + i)) : xecode ad kk (up2 V c k v) L Z i = xecode ad kk V L Z i := by
  unfold xecode
  have e : (fun q => if q < 8200 then up2 V c k v 48 (8200 * i + q) else 0) = (fun q => if q < 8200 then V 48 (8200 * i + q) else 0) := by
    funext q
    by_cases hq : q < 8200
    · rw [if_pos hq, if_pos hq]
      refine up2_pl (fun a => h ?_)
      rw [← a.1, ← a.2]
      show some (32 + (8200 * i + q) / 8200) = some (32 + i)
      have e2 : (8200 * i + q) / 8200 = i := by omega
      rw [e2]
    · rw [if_neg hq, if_neg hq]
  rw [e]
theorem xeComp_up {ad : Nat → Nat} {kk : Nat → ClassId} {V : Vf} {L : Lf} {Z : XZ} {c k : Nat} {v : Int32} {i : Nat} (h : xow c k ≠ some (34 + i)) : xeComp ad kk (up2 V c k v) L Z i = xeComp ad kk V L Z i := by
  unfold xeComp xfComp
  have e : ∀ c', True → xow c' i = some (34 + i) → up2 V c k v c' i = V c' i := fun c' _ h2 => up2_pl (fun a => h (by rw [← a.1, ← a.2]; exact h2))
  rw [e 49 trivial rfl, e 50 trivial rfl, e 51 trivial rfl, e 52 trivial rfl, e 53 trivial rfl, e 54 trivial rfl, e 55 trivial rfl, e 56 trivial rfl, e 57 trivial rfl]
theorem xeneedTypes_up {ad : Nat → Nat} {kk : Nat → ClassId} {V : Vf} {L : Lf} {Z : XZ} {c k : Nat} {v : Int32} {i : Nat} (h : xow c k ≠ some (82 + i)) : xeneedTypes ad kk (up2 V c k v) L Z i = xeneedTypes ad kk V L Z i := by
  unfold xeneedTypes
  have e : (fun q => if q < 8 then up2 V c k v 58 (8 * i + q) else 0) = (fun q => if q < 8 then V 58 (8 * i + q) else 0) := by
    funext q
    by_cases hq : q < 8
    · rw [if_pos hq, if_pos hq]
      refine up2_pl (fun a => h ?_)
      rw [← a.1, ← a.2]
      show some (82 + (8 * i + q) / 8) = some (82 + i)
      have e2 : (8 * i + q) / 8 = i := by omega
      rw [e2]
    · rw [if_neg hq, if_neg hq]
  rw [e]
theorem xeneedWords_up {ad : Nat → Nat} {kk : Nat → ClassId} {V : Vf} {L : Lf} {Z : XZ} {c k : Nat} {v : Int32} {i : Nat} (h : xow c k ≠ some (130 + i)) : xeneedWords ad kk (up2 V c k v) L Z i = xeneedWords ad kk V L Z i := by
  unfold xeneedWords
  have e : (fun q => if q < 8 then up2 V c k v 59 (8 * i + q) else 0) = (fun q => if q < 8 then V 59 (8 * i + q) else 0) := by
    funext q
    by_cases hq : q < 8
    · rw [if_pos hq, if_pos hq]
      refine up2_pl (fun a => h ?_)
      rw [← a.1, ← a.2]
      show some (130 + (8 * i + q) / 8) = some (130 + i)
      have e2 : (8 * i + q) / 8 = i := by omega
      rw [e2]
    · rw [if_neg hq, if_neg hq]
  rw [e]
theorem xeneedKinds_up {ad : Nat → Nat} {kk : Nat → ClassId} {V : Vf} {L : Lf} {Z : XZ} {c k : Nat} {v : Int32} {i : Nat} (h : xow c k ≠ some (178 + i)) : xeneedKinds ad kk (up2 V c k v) L Z i = xeneedKinds ad kk V L Z i := by
  unfold xeneedKinds
  have e : (fun q => if q < 8 then up2 V c k v 60 (8 * i + q) else 0) = (fun q => if q < 8 then V 60 (8 * i + q) else 0) := by
    funext q
    by_cases hq : q < 8
    · rw [if_pos hq, if_pos hq]
      refine up2_pl (fun a => h ?_)
      rw [← a.1, ← a.2]
      show some (178 + (8 * i + q) / 8) = some (178 + i)
      have e2 : (8 * i + q) / 8 = i := by omega
      rw [e2]
    · rw [if_neg hq, if_neg hq]
  rw [e]
theorem xemethodStarts_up {ad : Nat → Nat} {kk : Nat → ClassId} {V : Vf} {L : Lf} {Z : XZ} {c k : Nat} {v : Int32} {i : Nat} (h : xow c k ≠ some (226 + i)) : xemethodStarts ad kk (up2 V c k v) L Z i = xemethodStarts ad kk V L Z i := by
  unfold xemethodStarts
  have e : (fun q => if q < 20 then up2 V c k v 61 (20 * i + q) else 0) = (fun q => if q < 20 then V 61 (20 * i + q) else 0) := by
    funext q
    by_cases hq : q < 20
    · rw [if_pos hq, if_pos hq]
      refine up2_pl (fun a => h ?_)
      rw [← a.1, ← a.2]
      show some (226 + (20 * i + q) / 20) = some (226 + i)
      have e2 : (20 * i + q) / 20 = i := by omega
      rw [e2]
    · rw [if_neg hq, if_neg hq]
  rw [e]
theorem xeWrap_up {ad : Nat → Nat} {kk : Nat → ClassId} {V : Vf} {L : Lf} {Z : XZ} {c k : Nat} {v : Int32} {i : Nat} (h : xow c k ≠ some (274 + i)) : xeWrap ad kk (up2 V c k v) L Z i = xeWrap ad kk V L Z i := by
  unfold xeWrap xfWrap
  have e : ∀ c', True → xow c' i = some (274 + i) → up2 V c k v c' i = V c' i := fun c' _ h2 => up2_pl (fun a => h (by rw [← a.1, ← a.2]; exact h2))
  rw [e 62 trivial rfl, e 63 trivial rfl, e 64 trivial rfl, e 65 trivial rfl, e 66 trivial rfl]
theorem xeFrame_up {ad : Nat → Nat} {kk : Nat → ClassId} {V : Vf} {L : Lf} {Z : XZ} {c k : Nat} {v : Int32} {i : Nat} (h : xow c k ≠ some (298 + i)) : xeFrame ad kk (up2 V c k v) L Z i = xeFrame ad kk V L Z i := by
  unfold xeFrame xfFrame
  have e : ∀ c', True → xow c' i = some (298 + i) → up2 V c k v c' i = V c' i := fun c' _ h2 => up2_pl (fun a => h (by rw [← a.1, ← a.2]; exact h2))
  rw [e 67 trivial rfl, e 68 trivial rfl, e 69 trivial rfl, e 70 trivial rfl, e 71 trivial rfl, e 72 trivial rfl, e 73 trivial rfl, e 74 trivial rfl, e 75 trivial rfl, e 76 trivial rfl, e 77 trivial rfl, e 78 trivial rfl, e 79 trivial rfl, e 80 trivial rfl, e 81 trivial rfl, e 82 trivial rfl, e 83 trivial rfl, e 84 trivial rfl, e 85 trivial rfl]
theorem xb_up {ad : Nat → Nat} {kk : Nat → ClassId} {V : Vf} {L : Lf} {Z : XZ} {c k : Nat} {v : Int32} {j : Nat} (h : xow c k ≠ some j) : xb ad kk (up2 V c k v) L Z j = xb ad kk V L Z j := by
  unfold xb
  by_cases h0 : j < 2
  · rw [if_pos h0, if_pos h0]
    exact xeBook_up h
  rw [if_neg h0, if_neg h0]
  by_cases h2 : j < 12
  · rw [if_pos h2, if_pos h2]
    exact xeNames_up (by rw [show 2 + (j - 2) = j from by omega]; exact h)
  rw [if_neg h2, if_neg h2]
  by_cases h12 : j < 22
  · rw [if_pos h12, if_pos h12]
    exact xewords_up
  rw [if_neg h12, if_neg h12]
  by_cases h22 : j < 24
  · rw [if_pos h22, if_pos h22]
    exact xetypeUnder_up (by rw [show 22 + (j - 22) = j from by omega]; exact h)
  rw [if_neg h22, if_neg h22]
  by_cases h24 : j < 26
  · rw [if_pos h24, if_pos h24]
    exact xesettingValues_up (by rw [show 24 + (j - 24) = j from by omega]; exact h)
  rw [if_neg h24, if_neg h24]
  by_cases h26 : j < 28
  · rw [if_pos h26, if_pos h26]
    exact xecomps_up
  rw [if_neg h26, if_neg h26]
  by_cases h28 : j < 30
  · rw [if_pos h28, if_pos h28]
    exact xewrapsA_up
  rw [if_neg h28, if_neg h28]
  by_cases h30 : j < 32
  · rw [if_pos h30, if_pos h30]
    exact xewrapOrder_up (by rw [show 30 + (j - 30) = j from by omega]; exact h)
  rw [if_neg h30, if_neg h30]
  by_cases h32 : j < 34
  · rw [if_pos h32, if_pos h32]
    exact xecode_up (by rw [show 32 + (j - 32) = j from by omega]; exact h)
  rw [if_neg h32, if_neg h32]
  by_cases h34 : j < 82
  · rw [if_pos h34, if_pos h34]
    exact xeComp_up (by rw [show 34 + (j - 34) = j from by omega]; exact h)
  rw [if_neg h34, if_neg h34]
  by_cases h82 : j < 130
  · rw [if_pos h82, if_pos h82]
    exact xeneedTypes_up (by rw [show 82 + (j - 82) = j from by omega]; exact h)
  rw [if_neg h82, if_neg h82]
  by_cases h130 : j < 178
  · rw [if_pos h130, if_pos h130]
    exact xeneedWords_up (by rw [show 130 + (j - 130) = j from by omega]; exact h)
  rw [if_neg h130, if_neg h130]
  by_cases h178 : j < 226
  · rw [if_pos h178, if_pos h178]
    exact xeneedKinds_up (by rw [show 178 + (j - 178) = j from by omega]; exact h)
  rw [if_neg h178, if_neg h178]
  by_cases h226 : j < 274
  · rw [if_pos h226, if_pos h226]
    exact xemethodStarts_up (by rw [show 226 + (j - 226) = j from by omega]; exact h)
  rw [if_neg h226, if_neg h226]
  by_cases h274 : j < 298
  · rw [if_pos h274, if_pos h274]
    exact xeWrap_up (by rw [show 274 + (j - 274) = j from by omega]; exact h)
  rw [if_neg h274, if_neg h274]
  exact xeFrame_up (by rw [show 298 + (j - 298) = j from by omega]; exact h)
theorem xe_L {ad : Nat → Nat} {kk : Nat → ClassId} {V : Vf} {L : Lf} {Z : XZ} {c k : Nat} {v : Int64} {j : Nat} (h : ¬ (c = 44 ∧ 12 + k / 24 = j)) : xb ad kk V (upL L c k v) Z j = xb ad kk V L Z j := by
  unfold xb
  by_cases h0 : j < 2
  · rw [if_pos h0, if_pos h0]
    rfl
  rw [if_neg h0, if_neg h0]
  by_cases h2 : j < 12
  · rw [if_pos h2, if_pos h2]
    rfl
  rw [if_neg h2, if_neg h2]
  by_cases h12 : j < 22
  · rw [if_pos h12, if_pos h12]
    unfold xewords
    have e : (fun q => if q < 24 then upL L c k v 44 (24 * (j - 12) + q) else 0) = (fun q => if q < 24 then L 44 (24 * (j - 12) + q) else 0) := by
      funext q
      by_cases hq : q < 24
      · rw [if_pos hq, if_pos hq]
        exact upL_pl (fun a => h ⟨a.1.symm, by rw [← a.2]; omega⟩)
      · rw [if_neg hq, if_neg hq]
    rw [e]
  rw [if_neg h12, if_neg h12]
  by_cases h22 : j < 24
  · rw [if_pos h22, if_pos h22]
    rfl
  rw [if_neg h22, if_neg h22]
  by_cases h24 : j < 26
  · rw [if_pos h24, if_pos h24]
    rfl
  rw [if_neg h24, if_neg h24]
  by_cases h26 : j < 28
  · rw [if_pos h26, if_pos h26]
    rfl
  rw [if_neg h26, if_neg h26]
  by_cases h28 : j < 30
  · rw [if_pos h28, if_pos h28]
    rfl
  rw [if_neg h28, if_neg h28]
  by_cases h30 : j < 32
  · rw [if_pos h30, if_pos h30]
    rfl
  rw [if_neg h30, if_neg h30]
  by_cases h32 : j < 34
  · rw [if_pos h32, if_pos h32]
    rfl
  rw [if_neg h32, if_neg h32]
  by_cases h34 : j < 82
  · rw [if_pos h34, if_pos h34]
    rfl
  rw [if_neg h34, if_neg h34]
  by_cases h82 : j < 130
  · rw [if_pos h82, if_pos h82]
    rfl
  rw [if_neg h82, if_neg h82]
  by_cases h130 : j < 178
  · rw [if_pos h130, if_pos h130]
    rfl
  rw [if_neg h130, if_neg h130]
  by_cases h178 : j < 226
  · rw [if_pos h178, if_pos h178]
    rfl
  rw [if_neg h178, if_neg h178]
  by_cases h226 : j < 274
  · rw [if_pos h226, if_pos h226]
    rfl
  rw [if_neg h226, if_neg h226]
  by_cases h274 : j < 298
  · rw [if_pos h274, if_pos h274]
    rfl
  rw [if_neg h274, if_neg h274]
  rfl
theorem xs_up {ad : Nat → Nat} {kk : Nat → ClassId} {V : Vf} {L : Lf} {Z : XZ} {c k : Nat} {v : Int32} (h : 40 < c) : xs ad kk (up2 V c k v) L Z = xs ad kk V L Z := by
  have e : ∀ c', c' ≤ 40 → up2 V c k v c' = V c' := fun c' hc => up2_ne (by omega)
  unfold xs xfHouse xfReader xfChecker xfStock xfNotes xfMachine xfTape
  rw [e 0 (by decide), e 1 (by decide), e 2 (by decide), e 3 (by decide), e 4 (by decide), e 5 (by decide), e 6 (by decide), e 10 (by decide), e 12 (by decide), e 13 (by decide), e 15 (by decide), e 16 (by decide), e 17 (by decide), e 18 (by decide), e 19 (by decide), e 20 (by decide), e 21 (by decide), e 22 (by decide), e 23 (by decide), e 24 (by decide), e 25 (by decide), e 26 (by decide), e 27 (by decide), e 28 (by decide), e 29 (by decide), e 30 (by decide), e 31 (by decide), e 32 (by decide), e 33 (by decide), e 34 (by decide), e 35 (by decide), e 36 (by decide), e 37 (by decide), e 39 (by decide), e 40 (by decide)]
theorem xs_L {ad : Nat → Nat} {kk : Nat → ClassId} {V : Vf} {L : Lf} {Z : XZ} {k : Nat} {v : Int64} : xs ad kk V (upL L 44 k v) Z = xs ad kk V L Z := rfl
theorem xw_b {ad : Nat → Nat} {kk : Nat → ClassId} {V : Vf} {L : Lf} {Z : XZ} {j : Nat} (h : j < 298 + Z.nf) : (xw ad kk V L Z)[38 + j]? = some (xb ad kk V L Z j) := by
  unfold xw
  rw [List.getElem?_append_right (show (xs ad kk V L Z).length ≤ 38 + j from Nat.le_add_right 38 j), show 38 + j - (xs ad kk V L Z).length = j from Nat.add_sub_cancel_left 38 j, List.getElem?_map, List.getElem?_range h]
  rfl
theorem xt_b {kk : Nat → ClassId} {Z : XZ} {j : Nat} (h : j < 298) : (xty kk Z)[31 + j]? = some (kk (38 + j), if 12 ≤ j ∧ j < 22 then FieldType.long else if 26 ≤ j ∧ j < 28 then .object RX3 else if 28 ≤ j ∧ j < 30 then .object RX10 else .int) := by
  unfold xty
  rw [List.getElem?_append_right (show (xts kk Z).length ≤ 31 + j from Nat.le_add_right 31 j), show 31 + j - (xts kk Z).length = j from Nat.add_sub_cancel_left 31 j, List.getElem?_map, List.getElem?_range h]
  rfl
theorem xw_ss {ad : Nat → Nat} {kk : Nat → ClassId} {V : Vf} {L : Lf} {Z : XZ} {V' : Vf} {L' : Lf} {p : Nat} {y : Nat × va_E} (hp : p < 38) (h : (xs ad kk V L Z).set p y = xs ad kk V' L' Z) (hb : ∀ j, xb ad kk V' L' Z j = xb ad kk V L Z j) : (xw ad kk V L Z).set p y = xw ad kk V' L' Z := by
  unfold xw
  rw [List.set_append_left _ _ (show p < (xs ad kk V L Z).length from hp), h]
  have e : xb ad kk V' L' Z = xb ad kk V L Z := funext hb
  rw [e]
theorem xw_bs {ad : Nat → Nat} {kk : Nat → ClassId} {V : Vf} {L : Lf} {Z : XZ} {V' : Vf} {L' : Lf} {j : Nat} {y : Nat × va_E} (hj : j < 298 + Z.nf) (hs : xs ad kk V' L' Z = xs ad kk V L Z) (hy : xb ad kk V' L' Z j = y) (hb : ∀ i, i ≠ j → xb ad kk V' L' Z i = xb ad kk V L Z i) : (xw ad kk V L Z).set (38 + j) y = xw ad kk V' L' Z := by
  unfold xw
  rw [List.set_append_right _ _ (show (xs ad kk V L Z).length ≤ 38 + j from Nat.le_add_right 38 j), show 38 + j - (xs ad kk V L Z).length = j from Nat.add_sub_cancel_left 38 j, hs]
  congr 1
  refine List.ext_getElem? (fun i => ?_)
  rw [List.getElem?_set]
  by_cases hi : i < 298 + Z.nf
  · have e1 : ((List.range (298 + Z.nf)).map (xb ad kk V' L' Z))[i]? = some (xb ad kk V' L' Z i) := by rw [List.getElem?_map, List.getElem?_range hi]; rfl
    have e2 : ((List.range (298 + Z.nf)).map (xb ad kk V L Z))[i]? = some (xb ad kk V L Z i) := by rw [List.getElem?_map, List.getElem?_range hi]; rfl
    rw [e1, e2]
    by_cases hij : j = i
    · subst hij
      rw [if_pos rfl, if_pos (by rw [List.length_map, List.length_range]; exact hi), hy]
    · rw [if_neg hij, hb i (fun e => hij e.symm)]
  · have e1 : ((List.range (298 + Z.nf)).map (xb ad kk V' L' Z))[i]? = none := List.getElem?_eq_none (by rw [List.length_map, List.length_range]; omega)
    have e2 : ((List.range (298 + Z.nf)).map (xb ad kk V L Z))[i]? = none := List.getElem?_eq_none (by rw [List.length_map, List.length_range]; omega)
    rw [e1]
    by_cases hij : j = i
    · omega
    · rw [if_neg hij, e2]
theorem xjBook {ad : Nat → Nat} {kk : Nat → ClassId} {V : Vf} {L : Lf} {Z : XZ} {i : Nat} (h : i < 2) : xb ad kk V L Z i = xeBook ad kk V L Z i := by
  unfold xb
  rw [if_pos h]
theorem xgBook {ad : Nat → Nat} {kk : Nat → ClassId} {V : Vf} {L : Lf} {Z : XZ} {i : Nat} (h : i < 2) : (xw ad kk V L Z)[38 + i]? = some (xeBook ad kk V L Z i) := by
  have e := xw_b (ad := ad) (kk := kk) (V := V) (L := L) (Z := Z) (j := i) (by omega)
  rw [xjBook h] at e
  exact e
theorem xjNames {ad : Nat → Nat} {kk : Nat → ClassId} {V : Vf} {L : Lf} {Z : XZ} {i : Nat} (h : i < 10) : xb ad kk V L Z (2 + i) = xeNames ad kk V L Z i := by
  unfold xb
  rw [if_neg (show ¬ 2 + i < 2 by omega), if_pos (show 2 + i < 12 by omega), Nat.add_sub_cancel_left]
theorem xgNames {ad : Nat → Nat} {kk : Nat → ClassId} {V : Vf} {L : Lf} {Z : XZ} {i : Nat} (h : i < 10) : (xw ad kk V L Z)[40 + i]? = some (xeNames ad kk V L Z i) := by
  have e := xw_b (ad := ad) (kk := kk) (V := V) (L := L) (Z := Z) (j := 2 + i) (by omega)
  rw [xjNames h] at e
  rw [show 40 + i = 38 + (2 + i) from by omega]
  exact e
theorem xjwords {ad : Nat → Nat} {kk : Nat → ClassId} {V : Vf} {L : Lf} {Z : XZ} {i : Nat} (h : i < 10) : xb ad kk V L Z (12 + i) = xewords ad kk V L Z i := by
  unfold xb
  rw [if_neg (show ¬ 12 + i < 2 by omega), if_neg (show ¬ 12 + i < 12 by omega), if_pos (show 12 + i < 22 by omega), Nat.add_sub_cancel_left]
theorem xgwords {ad : Nat → Nat} {kk : Nat → ClassId} {V : Vf} {L : Lf} {Z : XZ} {i : Nat} (h : i < 10) : (xw ad kk V L Z)[50 + i]? = some (xewords ad kk V L Z i) := by
  have e := xw_b (ad := ad) (kk := kk) (V := V) (L := L) (Z := Z) (j := 12 + i) (by omega)
  rw [xjwords h] at e
  rw [show 50 + i = 38 + (12 + i) from by omega]
  exact e
theorem xjtypeUnder {ad : Nat → Nat} {kk : Nat → ClassId} {V : Vf} {L : Lf} {Z : XZ} {i : Nat} (h : i < 2) : xb ad kk V L Z (22 + i) = xetypeUnder ad kk V L Z i := by
  unfold xb
  rw [if_neg (show ¬ 22 + i < 2 by omega), if_neg (show ¬ 22 + i < 12 by omega), if_neg (show ¬ 22 + i < 22 by omega), if_pos (show 22 + i < 24 by omega), Nat.add_sub_cancel_left]
theorem xgtypeUnder {ad : Nat → Nat} {kk : Nat → ClassId} {V : Vf} {L : Lf} {Z : XZ} {i : Nat} (h : i < 2) : (xw ad kk V L Z)[60 + i]? = some (xetypeUnder ad kk V L Z i) := by
  have e := xw_b (ad := ad) (kk := kk) (V := V) (L := L) (Z := Z) (j := 22 + i) (by omega)
  rw [xjtypeUnder h] at e
  rw [show 60 + i = 38 + (22 + i) from by omega]
  exact e
theorem xjsettingValues {ad : Nat → Nat} {kk : Nat → ClassId} {V : Vf} {L : Lf} {Z : XZ} {i : Nat} (h : i < 2) : xb ad kk V L Z (24 + i) = xesettingValues ad kk V L Z i := by
  unfold xb
  rw [if_neg (show ¬ 24 + i < 2 by omega), if_neg (show ¬ 24 + i < 12 by omega), if_neg (show ¬ 24 + i < 22 by omega), if_neg (show ¬ 24 + i < 24 by omega), if_pos (show 24 + i < 26 by omega), Nat.add_sub_cancel_left]
theorem xgsettingValues {ad : Nat → Nat} {kk : Nat → ClassId} {V : Vf} {L : Lf} {Z : XZ} {i : Nat} (h : i < 2) : (xw ad kk V L Z)[62 + i]? = some (xesettingValues ad kk V L Z i) := by
  have e := xw_b (ad := ad) (kk := kk) (V := V) (L := L) (Z := Z) (j := 24 + i) (by omega)
  rw [xjsettingValues h] at e
  rw [show 62 + i = 38 + (24 + i) from by omega]
  exact e
theorem xjcomps {ad : Nat → Nat} {kk : Nat → ClassId} {V : Vf} {L : Lf} {Z : XZ} {i : Nat} (h : i < 2) : xb ad kk V L Z (26 + i) = xecomps ad kk V L Z i := by
  unfold xb
  rw [if_neg (show ¬ 26 + i < 2 by omega), if_neg (show ¬ 26 + i < 12 by omega), if_neg (show ¬ 26 + i < 22 by omega), if_neg (show ¬ 26 + i < 24 by omega), if_neg (show ¬ 26 + i < 26 by omega), if_pos (show 26 + i < 28 by omega), Nat.add_sub_cancel_left]
theorem xgcomps {ad : Nat → Nat} {kk : Nat → ClassId} {V : Vf} {L : Lf} {Z : XZ} {i : Nat} (h : i < 2) : (xw ad kk V L Z)[64 + i]? = some (xecomps ad kk V L Z i) := by
  have e := xw_b (ad := ad) (kk := kk) (V := V) (L := L) (Z := Z) (j := 26 + i) (by omega)
  rw [xjcomps h] at e
  rw [show 64 + i = 38 + (26 + i) from by omega]
  exact e
theorem xjwrapsA {ad : Nat → Nat} {kk : Nat → ClassId} {V : Vf} {L : Lf} {Z : XZ} {i : Nat} (h : i < 2) : xb ad kk V L Z (28 + i) = xewrapsA ad kk V L Z i := by
  unfold xb
  rw [if_neg (show ¬ 28 + i < 2 by omega), if_neg (show ¬ 28 + i < 12 by omega), if_neg (show ¬ 28 + i < 22 by omega), if_neg (show ¬ 28 + i < 24 by omega), if_neg (show ¬ 28 + i < 26 by omega), if_neg (show ¬ 28 + i < 28 by omega), if_pos (show 28 + i < 30 by omega), Nat.add_sub_cancel_left]
theorem xgwrapsA {ad : Nat → Nat} {kk : Nat → ClassId} {V : Vf} {L : Lf} {Z : XZ} {i : Nat} (h : i < 2) : (xw ad kk V L Z)[66 + i]? = some (xewrapsA ad kk V L Z i) := by
  have e := xw_b (ad := ad) (kk := kk) (V := V) (L := L) (Z := Z) (j := 28 + i) (by omega)
  rw [xjwrapsA h] at e
  rw [show 66 + i = 38 + (28 + i) from by omega]
  exact e
theorem xjwrapOrder {ad : Nat → Nat} {kk : Nat → ClassId} {V : Vf} {L : Lf} {Z : XZ} {i : Nat} (h : i < 2) : xb ad kk V L Z (30 + i) = xewrapOrder ad kk V L Z i := by
  unfold xb
  rw [if_neg (show ¬ 30 + i < 2 by omega), if_neg (show ¬ 30 + i < 12 by omega), if_neg (show ¬ 30 + i < 22 by omega), if_neg (show ¬ 30 + i < 24 by omega), if_neg (show ¬ 30 + i < 26 by omega), if_neg (show ¬ 30 + i < 28 by omega), if_neg (show ¬ 30 + i < 30 by omega), if_pos (show 30 + i < 32 by omega), Nat.add_sub_cancel_left]
theorem xgwrapOrder {ad : Nat → Nat} {kk : Nat → ClassId} {V : Vf} {L : Lf} {Z : XZ} {i : Nat} (h : i < 2) : (xw ad kk V L Z)[68 + i]? = some (xewrapOrder ad kk V L Z i) := by
  have e := xw_b (ad := ad) (kk := kk) (V := V) (L := L) (Z := Z) (j := 30 + i) (by omega)
  rw [xjwrapOrder h] at e
  rw [show 68 + i = 38 + (30 + i) from by omega]
  exact e
theorem xjcode {ad : Nat → Nat} {kk : Nat → ClassId} {V : Vf} {L : Lf} {Z : XZ} {i : Nat} (h : i < 2) : xb ad kk V L Z (32 + i) = xecode ad kk V L Z i := by
  unfold xb
  rw [if_neg (show ¬ 32 + i < 2 by omega), if_neg (show ¬ 32 + i < 12 by omega), if_neg (show ¬ 32 + i < 22 by omega), if_neg (show ¬ 32 + i < 24 by omega), if_neg (show ¬ 32 + i < 26 by omega), if_neg (show ¬ 32 + i < 28 by omega), if_neg (show ¬ 32 + i < 30 by omega), if_neg (show ¬ 32 + i < 32 by omega), if_pos (show 32 + i < 34 by omega), Nat.add_sub_cancel_left]
theorem xgcode {ad : Nat → Nat} {kk : Nat → ClassId} {V : Vf} {L : Lf} {Z : XZ} {i : Nat} (h : i < 2) : (xw ad kk V L Z)[70 + i]? = some (xecode ad kk V L Z i) := by
  have e := xw_b (ad := ad) (kk := kk) (V := V) (L := L) (Z := Z) (j := 32 + i) (by omega)
  rw [xjcode h] at e
  rw [show 70 + i = 38 + (32 + i) from by omega]
  exact e
theorem xjComp {ad : Nat → Nat} {kk : Nat → ClassId} {V : Vf} {L : Lf} {Z : XZ} {i : Nat} (h : i < 48) : xb ad kk V L Z (34 + i) = xeComp ad kk V L Z i := by
  unfold xb
  rw [if_neg (show ¬ 34 + i < 2 by omega), if_neg (show ¬ 34 + i < 12 by omega), if_neg (show ¬ 34 + i < 22 by omega), if_neg (show ¬ 34 + i < 24 by omega), if_neg (show ¬ 34 + i < 26 by omega), if_neg (show ¬ 34 + i < 28 by omega), if_neg (show ¬ 34 + i < 30 by omega), if_neg (show ¬ 34 + i < 32 by omega), if_neg (show ¬ 34 + i < 34 by omega), if_pos (show 34 + i < 82 by omega), Nat.add_sub_cancel_left]
theorem xgComp {ad : Nat → Nat} {kk : Nat → ClassId} {V : Vf} {L : Lf} {Z : XZ} {i : Nat} (h : i < 48) : (xw ad kk V L Z)[72 + i]? = some (xeComp ad kk V L Z i) := by
  have e := xw_b (ad := ad) (kk := kk) (V := V) (L := L) (Z := Z) (j := 34 + i) (by omega)
  rw [xjComp h] at e
  rw [show 72 + i = 38 + (34 + i) from by omega]
  exact e
theorem xjneedTypes {ad : Nat → Nat} {kk : Nat → ClassId} {V : Vf} {L : Lf} {Z : XZ} {i : Nat} (h : i < 48) : xb ad kk V L Z (82 + i) = xeneedTypes ad kk V L Z i := by
  unfold xb
  rw [if_neg (show ¬ 82 + i < 2 by omega), if_neg (show ¬ 82 + i < 12 by omega), if_neg (show ¬ 82 + i < 22 by omega), if_neg (show ¬ 82 + i < 24 by omega), if_neg (show ¬ 82 + i < 26 by omega), if_neg (show ¬ 82 + i < 28 by omega), if_neg (show ¬ 82 + i < 30 by omega), if_neg (show ¬ 82 + i < 32 by omega), if_neg (show ¬ 82 + i < 34 by omega), if_neg (show ¬ 82 + i < 82 by omega), if_pos (show 82 + i < 130 by omega), Nat.add_sub_cancel_left]
theorem xgneedTypes {ad : Nat → Nat} {kk : Nat → ClassId} {V : Vf} {L : Lf} {Z : XZ} {i : Nat} (h : i < 48) : (xw ad kk V L Z)[120 + i]? = some (xeneedTypes ad kk V L Z i) := by
  have e := xw_b (ad := ad) (kk := kk) (V := V) (L := L) (Z := Z) (j := 82 + i) (by omega)
  rw [xjneedTypes h] at e
  rw [show 120 + i = 38 + (82 + i) from by omega]
  exact e
theorem xjneedWords {ad : Nat → Nat} {kk : Nat → ClassId} {V : Vf} {L : Lf} {Z : XZ} {i : Nat} (h : i < 48) : xb ad kk V L Z (130 + i) = xeneedWords ad kk V L Z i := by
  unfold xb
  rw [if_neg (show ¬ 130 + i < 2 by omega), if_neg (show ¬ 130 + i < 12 by omega), if_neg (show ¬ 130 + i < 22 by omega), if_neg (show ¬ 130 + i < 24 by omega), if_neg (show ¬ 130 + i < 26 by omega), if_neg (show ¬ 130 + i < 28 by omega), if_neg (show ¬ 130 + i < 30 by omega), if_neg (show ¬ 130 + i < 32 by omega), if_neg (show ¬ 130 + i < 34 by omega), if_neg (show ¬ 130 + i < 82 by omega), if_neg (show ¬ 130 + i < 130 by omega), if_pos (show 130 + i < 178 by omega), Nat.add_sub_cancel_left]
theorem xgneedWords {ad : Nat → Nat} {kk : Nat → ClassId} {V : Vf} {L : Lf} {Z : XZ} {i : Nat} (h : i < 48) : (xw ad kk V L Z)[168 + i]? = some (xeneedWords ad kk V L Z i) := by
  have e := xw_b (ad := ad) (kk := kk) (V := V) (L := L) (Z := Z) (j := 130 + i) (by omega)
  rw [xjneedWords h] at e
  rw [show 168 + i = 38 + (130 + i) from by omega]
  exact e
theorem xjneedKinds {ad : Nat → Nat} {kk : Nat → ClassId} {V : Vf} {L : Lf} {Z : XZ} {i : Nat} (h : i < 48) : xb ad kk V L Z (178 + i) = xeneedKinds ad kk V L Z i := by
  unfold xb
  rw [if_neg (show ¬ 178 + i < 2 by omega), if_neg (show ¬ 178 + i < 12 by omega), if_neg (show ¬ 178 + i < 22 by omega), if_neg (show ¬ 178 + i < 24 by omega), if_neg (show ¬ 178 + i < 26 by omega), if_neg (show ¬ 178 + i < 28 by omega), if_neg (show ¬ 178 + i < 30 by omega), if_neg (show ¬ 178 + i < 32 by omega), if_neg (show ¬ 178 + i < 34 by omega), if_neg (show ¬ 178 + i < 82 by omega), if_neg (show ¬ 178 + i < 130 by omega), if_neg (show ¬ 178 + i < 178 by omega), if_pos (show 178 + i < 226 by omega), Nat.add_sub_cancel_left]
theorem xgneedKinds {ad : Nat → Nat} {kk : Nat → ClassId} {V : Vf} {L : Lf} {Z : XZ} {i : Nat} (h : i < 48) : (xw ad kk V L Z)[216 + i]? = some (xeneedKinds ad kk V L Z i) := by
  have e := xw_b (ad := ad) (kk := kk) (V := V) (L := L) (Z := Z) (j := 178 + i) (by omega)
  rw [xjneedKinds h] at e
  rw [show 216 + i = 38 + (178 + i) from by omega]
  exact e
theorem xjmethodStarts {ad : Nat → Nat} {kk : Nat → ClassId} {V : Vf} {L : Lf} {Z : XZ} {i : Nat} (h : i < 48) : xb ad kk V L Z (226 + i) = xemethodStarts ad kk V L Z i := by
  unfold xb
  rw [if_neg (show ¬ 226 + i < 2 by omega), if_neg (show ¬ 226 + i < 12 by omega), if_neg (show ¬ 226 + i < 22 by omega), if_neg (show ¬ 226 + i < 24 by omega), if_neg (show ¬ 226 + i < 26 by omega), if_neg (show ¬ 226 + i < 28 by omega), if_neg (show ¬ 226 + i < 30 by omega), if_neg (show ¬ 226 + i < 32 by omega), if_neg (show ¬ 226 + i < 34 by omega), if_neg (show ¬ 226 + i < 82 by omega), if_neg (show ¬ 226 + i < 130 by omega), if_neg (show ¬ 226 + i < 178 by omega), if_neg (show ¬ 226 + i < 226 by omega), if_pos (show 226 + i < 274 by omega), Nat.add_sub_cancel_left]
theorem xgmethodStarts {ad : Nat → Nat} {kk : Nat → ClassId} {V : Vf} {L : Lf} {Z : XZ} {i : Nat} (h : i < 48) : (xw ad kk V L Z)[264 + i]? = some (xemethodStarts ad kk V L Z i) := by
  have e := xw_b (ad := ad) (kk := kk) (V := V) (L := L) (Z := Z) (j := 226 + i) (by omega)
  rw [xjmethodStarts h] at e
  rw [show 264 + i = 38 + (226 + i) from by omega]
  exact e
theorem xjWrap {ad : Nat → Nat} {kk : Nat → ClassId} {V : Vf} {L : Lf} {Z : XZ} {i : Nat} (h : i < 24) : xb ad kk V L Z (274 + i) = xeWrap ad kk V L Z i := by
  unfold xb
  rw [if_neg (show ¬ 274 + i < 2 by omega), if_neg (show ¬ 274 + i < 12 by omega), if_neg (show ¬ 274 + i < 22 by omega), if_neg (show ¬ 274 + i < 24 by omega), if_neg (show ¬ 274 + i < 26 by omega), if_neg (show ¬ 274 + i < 28 by omega), if_neg (show ¬ 274 + i < 30 by omega), if_neg (show ¬ 274 + i < 32 by omega), if_neg (show ¬ 274 + i < 34 by omega), if_neg (show ¬ 274 + i < 82 by omega), if_neg (show ¬ 274 + i < 130 by omega), if_neg (show ¬ 274 + i < 178 by omega), if_neg (show ¬ 274 + i < 226 by omega), if_neg (show ¬ 274 + i < 274 by omega), if_pos (show 274 + i < 298 by omega), Nat.add_sub_cancel_left]
theorem xgWrap {ad : Nat → Nat} {kk : Nat → ClassId} {V : Vf} {L : Lf} {Z : XZ} {i : Nat} (h : i < 24) : (xw ad kk V L Z)[312 + i]? = some (xeWrap ad kk V L Z i) := by
  have e := xw_b (ad := ad) (kk := kk) (V := V) (L := L) (Z := Z) (j := 274 + i) (by omega)
  rw [xjWrap h] at e
  rw [show 312 + i = 38 + (274 + i) from by omega]
  exact e
theorem xjFrame {ad : Nat → Nat} {kk : Nat → ClassId} {V : Vf} {L : Lf} {Z : XZ} {i : Nat} (h : i < Z.nf) : xb ad kk V L Z (298 + i) = xeFrame ad kk V L Z i := by
  unfold xb
  rw [if_neg (show ¬ 298 + i < 2 by omega), if_neg (show ¬ 298 + i < 12 by omega), if_neg (show ¬ 298 + i < 22 by omega), if_neg (show ¬ 298 + i < 24 by omega), if_neg (show ¬ 298 + i < 26 by omega), if_neg (show ¬ 298 + i < 28 by omega), if_neg (show ¬ 298 + i < 30 by omega), if_neg (show ¬ 298 + i < 32 by omega), if_neg (show ¬ 298 + i < 34 by omega), if_neg (show ¬ 298 + i < 82 by omega), if_neg (show ¬ 298 + i < 130 by omega), if_neg (show ¬ 298 + i < 178 by omega), if_neg (show ¬ 298 + i < 226 by omega), if_neg (show ¬ 298 + i < 274 by omega), if_neg (show ¬ 298 + i < 298 by omega), Nat.add_sub_cancel_left]
theorem xgFrame {ad : Nat → Nat} {kk : Nat → ClassId} {V : Vf} {L : Lf} {Z : XZ} {i : Nat} (h : i < Z.nf) : (xw ad kk V L Z)[336 + i]? = some (xeFrame ad kk V L Z i) := by
  have e := xw_b (ad := ad) (kk := kk) (V := V) (L := L) (Z := Z) (j := 298 + i) (by omega)
  rw [xjFrame h] at e
  rw [show 336 + i = 38 + (298 + i) from by omega]
  exact e
theorem xtwords {kk : Nat → ClassId} {Z : XZ} {i : Nat} (h : i < 10) : (xty kk Z)[43 + i]? = some (kk (50 + i), FieldType.long) := by
  have e := xt_b (kk := kk) (Z := Z) (j := 12 + i) (by omega)
  rw [if_pos (by omega)] at e
  rw [show 43 + i = 31 + (12 + i) from by omega, show 50 + i = 38 + (12 + i) from by omega]
  exact e
theorem xttypeUnder {kk : Nat → ClassId} {Z : XZ} {i : Nat} (h : i < 2) : (xty kk Z)[53 + i]? = some (kk (60 + i), .int) := by
  have e := xt_b (kk := kk) (Z := Z) (j := 22 + i) (by omega)
  rw [if_neg (by omega), if_neg (by omega), if_neg (by omega)] at e
  rw [show 53 + i = 31 + (22 + i) from by omega, show 60 + i = 38 + (22 + i) from by omega]
  exact e
theorem xtsettingValues {kk : Nat → ClassId} {Z : XZ} {i : Nat} (h : i < 2) : (xty kk Z)[55 + i]? = some (kk (62 + i), .int) := by
  have e := xt_b (kk := kk) (Z := Z) (j := 24 + i) (by omega)
  rw [if_neg (by omega), if_neg (by omega), if_neg (by omega)] at e
  rw [show 55 + i = 31 + (24 + i) from by omega, show 62 + i = 38 + (24 + i) from by omega]
  exact e
theorem xtcomps {kk : Nat → ClassId} {Z : XZ} {i : Nat} (h : i < 2) : (xty kk Z)[57 + i]? = some (kk (64 + i), .object RX3) := by
  have e := xt_b (kk := kk) (Z := Z) (j := 26 + i) (by omega)
  rw [if_neg (by omega), if_pos (by omega)] at e
  rw [show 57 + i = 31 + (26 + i) from by omega, show 64 + i = 38 + (26 + i) from by omega]
  exact e
theorem xtwrapsA {kk : Nat → ClassId} {Z : XZ} {i : Nat} (h : i < 2) : (xty kk Z)[59 + i]? = some (kk (66 + i), .object RX10) := by
  have e := xt_b (kk := kk) (Z := Z) (j := 28 + i) (by omega)
  rw [if_neg (by omega), if_neg (by omega), if_pos (by omega)] at e
  rw [show 59 + i = 31 + (28 + i) from by omega, show 66 + i = 38 + (28 + i) from by omega]
  exact e
theorem xtwrapOrder {kk : Nat → ClassId} {Z : XZ} {i : Nat} (h : i < 2) : (xty kk Z)[61 + i]? = some (kk (68 + i), .int) := by
  have e := xt_b (kk := kk) (Z := Z) (j := 30 + i) (by omega)
  rw [if_neg (by omega), if_neg (by omega), if_neg (by omega)] at e
  rw [show 61 + i = 31 + (30 + i) from by omega, show 68 + i = 38 + (30 + i) from by omega]
  exact e
theorem xtcode {kk : Nat → ClassId} {Z : XZ} {i : Nat} (h : i < 2) : (xty kk Z)[63 + i]? = some (kk (70 + i), .int) := by
  have e := xt_b (kk := kk) (Z := Z) (j := 32 + i) (by omega)
  rw [if_neg (by omega), if_neg (by omega), if_neg (by omega)] at e
  rw [show 63 + i = 31 + (32 + i) from by omega, show 70 + i = 38 + (32 + i) from by omega]
  exact e
theorem xtneedTypes {kk : Nat → ClassId} {Z : XZ} {i : Nat} (h : i < 48) : (xty kk Z)[113 + i]? = some (kk (120 + i), .int) := by
  have e := xt_b (kk := kk) (Z := Z) (j := 82 + i) (by omega)
  rw [if_neg (by omega), if_neg (by omega), if_neg (by omega)] at e
  rw [show 113 + i = 31 + (82 + i) from by omega, show 120 + i = 38 + (82 + i) from by omega]
  exact e
theorem xtneedWords {kk : Nat → ClassId} {Z : XZ} {i : Nat} (h : i < 48) : (xty kk Z)[161 + i]? = some (kk (168 + i), .int) := by
  have e := xt_b (kk := kk) (Z := Z) (j := 130 + i) (by omega)
  rw [if_neg (by omega), if_neg (by omega), if_neg (by omega)] at e
  rw [show 161 + i = 31 + (130 + i) from by omega, show 168 + i = 38 + (130 + i) from by omega]
  exact e
theorem xtneedKinds {kk : Nat → ClassId} {Z : XZ} {i : Nat} (h : i < 48) : (xty kk Z)[209 + i]? = some (kk (216 + i), .int) := by
  have e := xt_b (kk := kk) (Z := Z) (j := 178 + i) (by omega)
  rw [if_neg (by omega), if_neg (by omega), if_neg (by omega)] at e
  rw [show 209 + i = 31 + (178 + i) from by omega, show 216 + i = 38 + (178 + i) from by omega]
  exact e
theorem xtmethodStarts {kk : Nat → ClassId} {Z : XZ} {i : Nat} (h : i < 48) : (xty kk Z)[257 + i]? = some (kk (264 + i), .int) := by
  have e := xt_b (kk := kk) (Z := Z) (j := 226 + i) (by omega)
  rw [if_neg (by omega), if_neg (by omega), if_neg (by omega)] at e
  rw [show 257 + i = 31 + (226 + i) from by omega, show 264 + i = 38 + (226 + i) from by omega]
  exact e
theorem xpBook_wrapCount {ad : Nat → Nat} {kk : Nat → ClassId} {V : Vf} {L : Lf} {Z : XZ} {i : Nat} {v : Int32} (h : i < 2) : (xw ad kk V L Z).set (38 + i) (ad (38 + i), .inr (0, (xfBook ad V i).set 11 (.int v))) = xw ad kk (up2 V 41 i v) L Z := by
  have e : (xw ad kk V L Z).set (38 + (i)) (ad (38 + i), .inr (0, (xfBook ad V i).set 11 (.int v))) = xw ad kk (up2 V 41 i v) L Z := by
    refine xw_bs (by omega) (xs_up (by decide)) ?_ (fun j hj => xb_up (fun e => hj (Option.some.inj e).symm))
    rw [xjBook h]
    unfold xeBook xfBook
    rw [up2_ss]
    rfl
  exact e
theorem xpBook_codeLength {ad : Nat → Nat} {kk : Nat → ClassId} {V : Vf} {L : Lf} {Z : XZ} {i : Nat} {v : Int32} (h : i < 2) : (xw ad kk V L Z).set (38 + i) (ad (38 + i), .inr (0, (xfBook ad V i).set 12 (.int v))) = xw ad kk (up2 V 42 i v) L Z := by
  have e : (xw ad kk V L Z).set (38 + (i)) (ad (38 + i), .inr (0, (xfBook ad V i).set 12 (.int v))) = xw ad kk (up2 V 42 i v) L Z := by
    refine xw_bs (by omega) (xs_up (by decide)) ?_ (fun j hj => xb_up (fun e => hj (Option.some.inj e).symm))
    rw [xjBook h]
    unfold xeBook xfBook
    rw [up2_ss]
    rfl
  exact e
theorem xpNames_size {ad : Nat → Nat} {kk : Nat → ClassId} {V : Vf} {L : Lf} {Z : XZ} {i : Nat} {v : Int32} (h : i < 10) : (xw ad kk V L Z).set (40 + i) (ad (40 + i), .inr (6, (xfNames ad V i).set 1 (.int v))) = xw ad kk (up2 V 43 i v) L Z := by
  have e : (xw ad kk V L Z).set (38 + (2 + i)) (ad (40 + i), .inr (6, (xfNames ad V i).set 1 (.int v))) = xw ad kk (up2 V 43 i v) L Z := by
    refine xw_bs (by omega) (xs_up (by decide)) ?_ (fun j hj => xb_up (fun e => hj (Option.some.inj e).symm))
    rw [xjNames h]
    unfold xeNames xfNames
    rw [up2_ss]
    rfl
  rw [show 38 + (2 + i) = 40 + i from by omega] at e
  exact e
theorem xpComp_needs {ad : Nat → Nat} {kk : Nat → ClassId} {V : Vf} {L : Lf} {Z : XZ} {i : Nat} {v : Int32} (h : i < 48) : (xw ad kk V L Z).set (72 + i) (ad (72 + i), .inr (3, (xfComp ad V i).set 4 (.int v))) = xw ad kk (up2 V 49 i v) L Z := by
  have e : (xw ad kk V L Z).set (38 + (34 + i)) (ad (72 + i), .inr (3, (xfComp ad V i).set 4 (.int v))) = xw ad kk (up2 V 49 i v) L Z := by
    refine xw_bs (by omega) (xs_up (by decide)) ?_ (fun j hj => xb_up (fun e => hj (Option.some.inj e).symm))
    rw [xjComp h]
    unfold xeComp xfComp
    rw [up2_ss]
    rfl
  rw [show 38 + (34 + i) = 72 + i from by omega] at e
  exact e
theorem xpComp_under {ad : Nat → Nat} {kk : Nat → ClassId} {V : Vf} {L : Lf} {Z : XZ} {i : Nat} {v : Int32} (h : i < 48) : (xw ad kk V L Z).set (72 + i) (ad (72 + i), .inr (3, (xfComp ad V i).set 5 (.int v))) = xw ad kk (up2 V 50 i v) L Z := by
  have e : (xw ad kk V L Z).set (38 + (34 + i)) (ad (72 + i), .inr (3, (xfComp ad V i).set 5 (.int v))) = xw ad kk (up2 V 50 i v) L Z := by
    refine xw_bs (by omega) (xs_up (by decide)) ?_ (fun j hj => xb_up (fun e => hj (Option.some.inj e).symm))
    rw [xjComp h]
    unfold xeComp xfComp
    rw [up2_ss]
    rfl
  rw [show 38 + (34 + i) = 72 + i from by omega] at e
  exact e
theorem xpComp_scope {ad : Nat → Nat} {kk : Nat → ClassId} {V : Vf} {L : Lf} {Z : XZ} {i : Nat} {v : Int32} (h : i < 48) : (xw ad kk V L Z).set (72 + i) (ad (72 + i), .inr (3, (xfComp ad V i).set 6 (.int v))) = xw ad kk (up2 V 51 i v) L Z := by
  have e : (xw ad kk V L Z).set (38 + (34 + i)) (ad (72 + i), .inr (3, (xfComp ad V i).set 6 (.int v))) = xw ad kk (up2 V 51 i v) L Z := by
    refine xw_bs (by omega) (xs_up (by decide)) ?_ (fun j hj => xb_up (fun e => hj (Option.some.inj e).symm))
    rw [xjComp h]
    unfold xeComp xfComp
    rw [up2_ss]
    rfl
  rw [show 38 + (34 + i) = 72 + i from by omega] at e
  exact e
theorem xpComp_calledWord {ad : Nat → Nat} {kk : Nat → ClassId} {V : Vf} {L : Lf} {Z : XZ} {i : Nat} {v : Int32} (h : i < 48) : (xw ad kk V L Z).set (72 + i) (ad (72 + i), .inr (3, (xfComp ad V i).set 7 (.int v))) = xw ad kk (up2 V 52 i v) L Z := by
  have e : (xw ad kk V L Z).set (38 + (34 + i)) (ad (72 + i), .inr (3, (xfComp ad V i).set 7 (.int v))) = xw ad kk (up2 V 52 i v) L Z := by
    refine xw_bs (by omega) (xs_up (by decide)) ?_ (fun j hj => xb_up (fun e => hj (Option.some.inj e).symm))
    rw [xjComp h]
    unfold xeComp xfComp
    rw [up2_ss]
    rfl
  rw [show 38 + (34 + i) = 72 + i from by omega] at e
  exact e
theorem xpComp_rank {ad : Nat → Nat} {kk : Nat → ClassId} {V : Vf} {L : Lf} {Z : XZ} {i : Nat} {v : Int32} (h : i < 48) : (xw ad kk V L Z).set (72 + i) (ad (72 + i), .inr (3, (xfComp ad V i).set 8 (.int v))) = xw ad kk (up2 V 53 i v) L Z := by
  have e : (xw ad kk V L Z).set (38 + (34 + i)) (ad (72 + i), .inr (3, (xfComp ad V i).set 8 (.int v))) = xw ad kk (up2 V 53 i v) L Z := by
    refine xw_bs (by omega) (xs_up (by decide)) ?_ (fun j hj => xb_up (fun e => hj (Option.some.inj e).symm))
    rw [xjComp h]
    unfold xeComp xfComp
    rw [up2_ss]
    rfl
  rw [show 38 + (34 + i) = 72 + i from by omega] at e
  exact e
theorem xpComp_whenSetting {ad : Nat → Nat} {kk : Nat → ClassId} {V : Vf} {L : Lf} {Z : XZ} {i : Nat} {v : Int32} (h : i < 48) : (xw ad kk V L Z).set (72 + i) (ad (72 + i), .inr (3, (xfComp ad V i).set 9 (.int v))) = xw ad kk (up2 V 54 i v) L Z := by
  have e : (xw ad kk V L Z).set (38 + (34 + i)) (ad (72 + i), .inr (3, (xfComp ad V i).set 9 (.int v))) = xw ad kk (up2 V 54 i v) L Z := by
    refine xw_bs (by omega) (xs_up (by decide)) ?_ (fun j hj => xb_up (fun e => hj (Option.some.inj e).symm))
    rw [xjComp h]
    unfold xeComp xfComp
    rw [up2_ss]
    rfl
  rw [show 38 + (34 + i) = 72 + i from by omega] at e
  exact e
theorem xpComp_whenValue {ad : Nat → Nat} {kk : Nat → ClassId} {V : Vf} {L : Lf} {Z : XZ} {i : Nat} {v : Int32} (h : i < 48) : (xw ad kk V L Z).set (72 + i) (ad (72 + i), .inr (3, (xfComp ad V i).set 10 (.int v))) = xw ad kk (up2 V 55 i v) L Z := by
  have e : (xw ad kk V L Z).set (38 + (34 + i)) (ad (72 + i), .inr (3, (xfComp ad V i).set 10 (.int v))) = xw ad kk (up2 V 55 i v) L Z := by
    refine xw_bs (by omega) (xs_up (by decide)) ?_ (fun j hj => xb_up (fun e => hj (Option.some.inj e).symm))
    rw [xjComp h]
    unfold xeComp xfComp
    rw [up2_ss]
    rfl
  rw [show 38 + (34 + i) = 72 + i from by omega] at e
  exact e
theorem xpComp_openedStart {ad : Nat → Nat} {kk : Nat → ClassId} {V : Vf} {L : Lf} {Z : XZ} {i : Nat} {v : Int32} (h : i < 48) : (xw ad kk V L Z).set (72 + i) (ad (72 + i), .inr (3, (xfComp ad V i).set 11 (.int v))) = xw ad kk (up2 V 56 i v) L Z := by
  have e : (xw ad kk V L Z).set (38 + (34 + i)) (ad (72 + i), .inr (3, (xfComp ad V i).set 11 (.int v))) = xw ad kk (up2 V 56 i v) L Z := by
    refine xw_bs (by omega) (xs_up (by decide)) ?_ (fun j hj => xb_up (fun e => hj (Option.some.inj e).symm))
    rw [xjComp h]
    unfold xeComp xfComp
    rw [up2_ss]
    rfl
  rw [show 38 + (34 + i) = 72 + i from by omega] at e
  exact e
theorem xpComp_closedStart {ad : Nat → Nat} {kk : Nat → ClassId} {V : Vf} {L : Lf} {Z : XZ} {i : Nat} {v : Int32} (h : i < 48) : (xw ad kk V L Z).set (72 + i) (ad (72 + i), .inr (3, (xfComp ad V i).set 12 (.int v))) = xw ad kk (up2 V 57 i v) L Z := by
  have e : (xw ad kk V L Z).set (38 + (34 + i)) (ad (72 + i), .inr (3, (xfComp ad V i).set 12 (.int v))) = xw ad kk (up2 V 57 i v) L Z := by
    refine xw_bs (by omega) (xs_up (by decide)) ?_ (fun j hj => xb_up (fun e => hj (Option.some.inj e).symm))
    rw [xjComp h]
    unfold xeComp xfComp
    rw [up2_ss]
    rfl
  rw [show 38 + (34 + i) = 72 + i from by omega] at e
  exact e
theorem xpWrap_type {ad : Nat → Nat} {kk : Nat → ClassId} {V : Vf} {L : Lf} {Z : XZ} {i : Nat} {v : Int32} (h : i < 24) : (xw ad kk V L Z).set (312 + i) (ad (312 + i), .inr (10, (xfWrap V i).set 0 (.int v))) = xw ad kk (up2 V 62 i v) L Z := by
  have e : (xw ad kk V L Z).set (38 + (274 + i)) (ad (312 + i), .inr (10, (xfWrap V i).set 0 (.int v))) = xw ad kk (up2 V 62 i v) L Z := by
    refine xw_bs (by omega) (xs_up (by decide)) ?_ (fun j hj => xb_up (fun e => hj (Option.some.inj e).symm))
    rw [xjWrap h]
    unfold xeWrap xfWrap
    rw [up2_ss]
    rfl
  rw [show 38 + (274 + i) = 312 + i from by omega] at e
  exact e
theorem xpWrap_method {ad : Nat → Nat} {kk : Nat → ClassId} {V : Vf} {L : Lf} {Z : XZ} {i : Nat} {v : Int32} (h : i < 24) : (xw ad kk V L Z).set (312 + i) (ad (312 + i), .inr (10, (xfWrap V i).set 1 (.int v))) = xw ad kk (up2 V 63 i v) L Z := by
  have e : (xw ad kk V L Z).set (38 + (274 + i)) (ad (312 + i), .inr (10, (xfWrap V i).set 1 (.int v))) = xw ad kk (up2 V 63 i v) L Z := by
    refine xw_bs (by omega) (xs_up (by decide)) ?_ (fun j hj => xb_up (fun e => hj (Option.some.inj e).symm))
    rw [xjWrap h]
    unfold xeWrap xfWrap
    rw [up2_ss]
    rfl
  rw [show 38 + (274 + i) = 312 + i from by omega] at e
  exact e
theorem xpWrap_number {ad : Nat → Nat} {kk : Nat → ClassId} {V : Vf} {L : Lf} {Z : XZ} {i : Nat} {v : Int32} (h : i < 24) : (xw ad kk V L Z).set (312 + i) (ad (312 + i), .inr (10, (xfWrap V i).set 2 (.int v))) = xw ad kk (up2 V 64 i v) L Z := by
  have e : (xw ad kk V L Z).set (38 + (274 + i)) (ad (312 + i), .inr (10, (xfWrap V i).set 2 (.int v))) = xw ad kk (up2 V 64 i v) L Z := by
    refine xw_bs (by omega) (xs_up (by decide)) ?_ (fun j hj => xb_up (fun e => hj (Option.some.inj e).symm))
    rw [xjWrap h]
    unfold xeWrap xfWrap
    rw [up2_ss]
    rfl
  rw [show 38 + (274 + i) = 312 + i from by omega] at e
  exact e
theorem xpWrap_phase {ad : Nat → Nat} {kk : Nat → ClassId} {V : Vf} {L : Lf} {Z : XZ} {i : Nat} {v : Int32} (h : i < 24) : (xw ad kk V L Z).set (312 + i) (ad (312 + i), .inr (10, (xfWrap V i).set 3 (.int v))) = xw ad kk (up2 V 65 i v) L Z := by
  have e : (xw ad kk V L Z).set (38 + (274 + i)) (ad (312 + i), .inr (10, (xfWrap V i).set 3 (.int v))) = xw ad kk (up2 V 65 i v) L Z := by
    refine xw_bs (by omega) (xs_up (by decide)) ?_ (fun j hj => xb_up (fun e => hj (Option.some.inj e).symm))
    rw [xjWrap h]
    unfold xeWrap xfWrap
    rw [up2_ss]
    rfl
  rw [show 38 + (274 + i) = 312 + i from by omega] at e
  exact e
theorem xpWrap_start {ad : Nat → Nat} {kk : Nat → ClassId} {V : Vf} {L : Lf} {Z : XZ} {i : Nat} {v : Int32} (h : i < 24) : (xw ad kk V L Z).set (312 + i) (ad (312 + i), .inr (10, (xfWrap V i).set 4 (.int v))) = xw ad kk (up2 V 66 i v) L Z := by
  have e : (xw ad kk V L Z).set (38 + (274 + i)) (ad (312 + i), .inr (10, (xfWrap V i).set 4 (.int v))) = xw ad kk (up2 V 66 i v) L Z := by
    refine xw_bs (by omega) (xs_up (by decide)) ?_ (fun j hj => xb_up (fun e => hj (Option.some.inj e).symm))
    rw [xjWrap h]
    unfold xeWrap xfWrap
    rw [up2_ss]
    rfl
  rw [show 38 + (274 + i) = 312 + i from by omega] at e
  exact e
theorem xpFrame_kind {ad : Nat → Nat} {kk : Nat → ClassId} {V : Vf} {L : Lf} {Z : XZ} {i : Nat} {v : Int32} (h : i < Z.nf) : (xw ad kk V L Z).set (336 + i) (Z.fa i, .inr (4, (xfFrame V i).set 0 (.int v))) = xw ad kk (up2 V 67 i v) L Z := by
  have e : (xw ad kk V L Z).set (38 + (298 + i)) (Z.fa i, .inr (4, (xfFrame V i).set 0 (.int v))) = xw ad kk (up2 V 67 i v) L Z := by
    refine xw_bs (by omega) (xs_up (by decide)) ?_ (fun j hj => xb_up (fun e => hj (Option.some.inj e).symm))
    rw [xjFrame h]
    unfold xeFrame xfFrame
    rw [up2_ss]
    rfl
  rw [show 38 + (298 + i) = 336 + i from by omega] at e
  exact e
theorem xpFrame_phase {ad : Nat → Nat} {kk : Nat → ClassId} {V : Vf} {L : Lf} {Z : XZ} {i : Nat} {v : Int32} (h : i < Z.nf) : (xw ad kk V L Z).set (336 + i) (Z.fa i, .inr (4, (xfFrame V i).set 1 (.int v))) = xw ad kk (up2 V 68 i v) L Z := by
  have e : (xw ad kk V L Z).set (38 + (298 + i)) (Z.fa i, .inr (4, (xfFrame V i).set 1 (.int v))) = xw ad kk (up2 V 68 i v) L Z := by
    refine xw_bs (by omega) (xs_up (by decide)) ?_ (fun j hj => xb_up (fun e => hj (Option.some.inj e).symm))
    rw [xjFrame h]
    unfold xeFrame xfFrame
    rw [up2_ss]
    rfl
  rw [show 38 + (298 + i) = 336 + i from by omega] at e
  exact e
theorem xpFrame_level {ad : Nat → Nat} {kk : Nat → ClassId} {V : Vf} {L : Lf} {Z : XZ} {i : Nat} {v : Int32} (h : i < Z.nf) : (xw ad kk V L Z).set (336 + i) (Z.fa i, .inr (4, (xfFrame V i).set 2 (.int v))) = xw ad kk (up2 V 69 i v) L Z := by
  have e : (xw ad kk V L Z).set (38 + (298 + i)) (Z.fa i, .inr (4, (xfFrame V i).set 2 (.int v))) = xw ad kk (up2 V 69 i v) L Z := by
    refine xw_bs (by omega) (xs_up (by decide)) ?_ (fun j hj => xb_up (fun e => hj (Option.some.inj e).symm))
    rw [xjFrame h]
    unfold xeFrame xfFrame
    rw [up2_ss]
    rfl
  rw [show 38 + (298 + i) = 336 + i from by omega] at e
  exact e
theorem xpFrame_object {ad : Nat → Nat} {kk : Nat → ClassId} {V : Vf} {L : Lf} {Z : XZ} {i : Nat} {v : Int32} (h : i < Z.nf) : (xw ad kk V L Z).set (336 + i) (Z.fa i, .inr (4, (xfFrame V i).set 3 (.int v))) = xw ad kk (up2 V 70 i v) L Z := by
  have e : (xw ad kk V L Z).set (38 + (298 + i)) (Z.fa i, .inr (4, (xfFrame V i).set 3 (.int v))) = xw ad kk (up2 V 70 i v) L Z := by
    refine xw_bs (by omega) (xs_up (by decide)) ?_ (fun j hj => xb_up (fun e => hj (Option.some.inj e).symm))
    rw [xjFrame h]
    unfold xeFrame xfFrame
    rw [up2_ss]
    rfl
  rw [show 38 + (298 + i) = 336 + i from by omega] at e
  exact e
theorem xpFrame_component {ad : Nat → Nat} {kk : Nat → ClassId} {V : Vf} {L : Lf} {Z : XZ} {i : Nat} {v : Int32} (h : i < Z.nf) : (xw ad kk V L Z).set (336 + i) (Z.fa i, .inr (4, (xfFrame V i).set 4 (.int v))) = xw ad kk (up2 V 71 i v) L Z := by
  have e : (xw ad kk V L Z).set (38 + (298 + i)) (Z.fa i, .inr (4, (xfFrame V i).set 4 (.int v))) = xw ad kk (up2 V 71 i v) L Z := by
    refine xw_bs (by omega) (xs_up (by decide)) ?_ (fun j hj => xb_up (fun e => hj (Option.some.inj e).symm))
    rw [xjFrame h]
    unfold xeFrame xfFrame
    rw [up2_ss]
    rfl
  rw [show 38 + (298 + i) = 336 + i from by omega] at e
  exact e
theorem xpFrame_scope {ad : Nat → Nat} {kk : Nat → ClassId} {V : Vf} {L : Lf} {Z : XZ} {i : Nat} {v : Int32} (h : i < Z.nf) : (xw ad kk V L Z).set (336 + i) (Z.fa i, .inr (4, (xfFrame V i).set 5 (.int v))) = xw ad kk (up2 V 72 i v) L Z := by
  have e : (xw ad kk V L Z).set (38 + (298 + i)) (Z.fa i, .inr (4, (xfFrame V i).set 5 (.int v))) = xw ad kk (up2 V 72 i v) L Z := by
    refine xw_bs (by omega) (xs_up (by decide)) ?_ (fun j hj => xb_up (fun e => hj (Option.some.inj e).symm))
    rw [xjFrame h]
    unfold xeFrame xfFrame
    rw [up2_ss]
    rfl
  rw [show 38 + (298 + i) = 336 + i from by omega] at e
  exact e
theorem xpFrame_method {ad : Nat → Nat} {kk : Nat → ClassId} {V : Vf} {L : Lf} {Z : XZ} {i : Nat} {v : Int32} (h : i < Z.nf) : (xw ad kk V L Z).set (336 + i) (Z.fa i, .inr (4, (xfFrame V i).set 6 (.int v))) = xw ad kk (up2 V 73 i v) L Z := by
  have e : (xw ad kk V L Z).set (38 + (298 + i)) (Z.fa i, .inr (4, (xfFrame V i).set 6 (.int v))) = xw ad kk (up2 V 73 i v) L Z := by
    refine xw_bs (by omega) (xs_up (by decide)) ?_ (fun j hj => xb_up (fun e => hj (Option.some.inj e).symm))
    rw [xjFrame h]
    unfold xeFrame xfFrame
    rw [up2_ss]
    rfl
  rw [show 38 + (298 + i) = 336 + i from by omega] at e
  exact e
theorem xpFrame_arg {ad : Nat → Nat} {kk : Nat → ClassId} {V : Vf} {L : Lf} {Z : XZ} {i : Nat} {v : Int32} (h : i < Z.nf) : (xw ad kk V L Z).set (336 + i) (Z.fa i, .inr (4, (xfFrame V i).set 7 (.int v))) = xw ad kk (up2 V 74 i v) L Z := by
  have e : (xw ad kk V L Z).set (38 + (298 + i)) (Z.fa i, .inr (4, (xfFrame V i).set 7 (.int v))) = xw ad kk (up2 V 74 i v) L Z := by
    refine xw_bs (by omega) (xs_up (by decide)) ?_ (fun j hj => xb_up (fun e => hj (Option.some.inj e).symm))
    rw [xjFrame h]
    unfold xeFrame xfFrame
    rw [up2_ss]
    rfl
  rw [show 38 + (298 + i) = 336 + i from by omega] at e
  exact e
theorem xpFrame_position {ad : Nat → Nat} {kk : Nat → ClassId} {V : Vf} {L : Lf} {Z : XZ} {i : Nat} {v : Int32} (h : i < Z.nf) : (xw ad kk V L Z).set (336 + i) (Z.fa i, .inr (4, (xfFrame V i).set 8 (.int v))) = xw ad kk (up2 V 75 i v) L Z := by
  have e : (xw ad kk V L Z).set (38 + (298 + i)) (Z.fa i, .inr (4, (xfFrame V i).set 8 (.int v))) = xw ad kk (up2 V 75 i v) L Z := by
    refine xw_bs (by omega) (xs_up (by decide)) ?_ (fun j hj => xb_up (fun e => hj (Option.some.inj e).symm))
    rw [xjFrame h]
    unfold xeFrame xfFrame
    rw [up2_ss]
    rfl
  rw [show 38 + (298 + i) = 336 + i from by omega] at e
  exact e
theorem xpFrame_item {ad : Nat → Nat} {kk : Nat → ClassId} {V : Vf} {L : Lf} {Z : XZ} {i : Nat} {v : Int32} (h : i < Z.nf) : (xw ad kk V L Z).set (336 + i) (Z.fa i, .inr (4, (xfFrame V i).set 9 (.int v))) = xw ad kk (up2 V 76 i v) L Z := by
  have e : (xw ad kk V L Z).set (38 + (298 + i)) (Z.fa i, .inr (4, (xfFrame V i).set 9 (.int v))) = xw ad kk (up2 V 76 i v) L Z := by
    refine xw_bs (by omega) (xs_up (by decide)) ?_ (fun j hj => xb_up (fun e => hj (Option.some.inj e).symm))
    rw [xjFrame h]
    unfold xeFrame xfFrame
    rw [up2_ss]
    rfl
  rw [show 38 + (298 + i) = 336 + i from by omega] at e
  exact e
theorem xpFrame_target {ad : Nat → Nat} {kk : Nat → ClassId} {V : Vf} {L : Lf} {Z : XZ} {i : Nat} {v : Int32} (h : i < Z.nf) : (xw ad kk V L Z).set (336 + i) (Z.fa i, .inr (4, (xfFrame V i).set 10 (.int v))) = xw ad kk (up2 V 77 i v) L Z := by
  have e : (xw ad kk V L Z).set (38 + (298 + i)) (Z.fa i, .inr (4, (xfFrame V i).set 10 (.int v))) = xw ad kk (up2 V 77 i v) L Z := by
    refine xw_bs (by omega) (xs_up (by decide)) ?_ (fun j hj => xb_up (fun e => hj (Option.some.inj e).symm))
    rw [xjFrame h]
    unfold xeFrame xfFrame
    rw [up2_ss]
    rfl
  rw [show 38 + (298 + i) = 336 + i from by omega] at e
  exact e
theorem xpFrame_given {ad : Nat → Nat} {kk : Nat → ClassId} {V : Vf} {L : Lf} {Z : XZ} {i : Nat} {v : Int32} (h : i < Z.nf) : (xw ad kk V L Z).set (336 + i) (Z.fa i, .inr (4, (xfFrame V i).set 11 (.int v))) = xw ad kk (up2 V 78 i v) L Z := by
  have e : (xw ad kk V L Z).set (38 + (298 + i)) (Z.fa i, .inr (4, (xfFrame V i).set 11 (.int v))) = xw ad kk (up2 V 78 i v) L Z := by
    refine xw_bs (by omega) (xs_up (by decide)) ?_ (fun j hj => xb_up (fun e => hj (Option.some.inj e).symm))
    rw [xjFrame h]
    unfold xeFrame xfFrame
    rw [up2_ss]
    rfl
  rw [show 38 + (298 + i) = 336 + i from by omega] at e
  exact e
theorem xpFrame_sum {ad : Nat → Nat} {kk : Nat → ClassId} {V : Vf} {L : Lf} {Z : XZ} {i : Nat} {v : Int32} (h : i < Z.nf) : (xw ad kk V L Z).set (336 + i) (Z.fa i, .inr (4, (xfFrame V i).set 12 (.int v))) = xw ad kk (up2 V 79 i v) L Z := by
  have e : (xw ad kk V L Z).set (38 + (298 + i)) (Z.fa i, .inr (4, (xfFrame V i).set 12 (.int v))) = xw ad kk (up2 V 79 i v) L Z := by
    refine xw_bs (by omega) (xs_up (by decide)) ?_ (fun j hj => xb_up (fun e => hj (Option.some.inj e).symm))
    rw [xjFrame h]
    unfold xeFrame xfFrame
    rw [up2_ss]
    rfl
  rw [show 38 + (298 + i) = 336 + i from by omega] at e
  exact e
theorem xpFrame_mark {ad : Nat → Nat} {kk : Nat → ClassId} {V : Vf} {L : Lf} {Z : XZ} {i : Nat} {v : Int32} (h : i < Z.nf) : (xw ad kk V L Z).set (336 + i) (Z.fa i, .inr (4, (xfFrame V i).set 13 (.int v))) = xw ad kk (up2 V 80 i v) L Z := by
  have e : (xw ad kk V L Z).set (38 + (298 + i)) (Z.fa i, .inr (4, (xfFrame V i).set 13 (.int v))) = xw ad kk (up2 V 80 i v) L Z := by
    refine xw_bs (by omega) (xs_up (by decide)) ?_ (fun j hj => xb_up (fun e => hj (Option.some.inj e).symm))
    rw [xjFrame h]
    unfold xeFrame xfFrame
    rw [up2_ss]
    rfl
  rw [show 38 + (298 + i) = 336 + i from by omega] at e
  exact e
theorem xpFrame_needs {ad : Nat → Nat} {kk : Nat → ClassId} {V : Vf} {L : Lf} {Z : XZ} {i : Nat} {v : Int32} (h : i < Z.nf) : (xw ad kk V L Z).set (336 + i) (Z.fa i, .inr (4, (xfFrame V i).set 14 (.int v))) = xw ad kk (up2 V 81 i v) L Z := by
  have e : (xw ad kk V L Z).set (38 + (298 + i)) (Z.fa i, .inr (4, (xfFrame V i).set 14 (.int v))) = xw ad kk (up2 V 81 i v) L Z := by
    refine xw_bs (by omega) (xs_up (by decide)) ?_ (fun j hj => xb_up (fun e => hj (Option.some.inj e).symm))
    rw [xjFrame h]
    unfold xeFrame xfFrame
    rw [up2_ss]
    rfl
  rw [show 38 + (298 + i) = 336 + i from by omega] at e
  exact e
theorem xpFrame_failure {ad : Nat → Nat} {kk : Nat → ClassId} {V : Vf} {L : Lf} {Z : XZ} {i : Nat} {v : Int32} (h : i < Z.nf) : (xw ad kk V L Z).set (336 + i) (Z.fa i, .inr (4, (xfFrame V i).set 15 (.int v))) = xw ad kk (up2 V 82 i v) L Z := by
  have e : (xw ad kk V L Z).set (38 + (298 + i)) (Z.fa i, .inr (4, (xfFrame V i).set 15 (.int v))) = xw ad kk (up2 V 82 i v) L Z := by
    refine xw_bs (by omega) (xs_up (by decide)) ?_ (fun j hj => xb_up (fun e => hj (Option.some.inj e).symm))
    rw [xjFrame h]
    unfold xeFrame xfFrame
    rw [up2_ss]
    rfl
  rw [show 38 + (298 + i) = 336 + i from by omega] at e
  exact e
theorem xpFrame_spent {ad : Nat → Nat} {kk : Nat → ClassId} {V : Vf} {L : Lf} {Z : XZ} {i : Nat} {v : Int32} (h : i < Z.nf) : (xw ad kk V L Z).set (336 + i) (Z.fa i, .inr (4, (xfFrame V i).set 16 (.int v))) = xw ad kk (up2 V 83 i v) L Z := by
  have e : (xw ad kk V L Z).set (38 + (298 + i)) (Z.fa i, .inr (4, (xfFrame V i).set 16 (.int v))) = xw ad kk (up2 V 83 i v) L Z := by
    refine xw_bs (by omega) (xs_up (by decide)) ?_ (fun j hj => xb_up (fun e => hj (Option.some.inj e).symm))
    rw [xjFrame h]
    unfold xeFrame xfFrame
    rw [up2_ss]
    rfl
  rw [show 38 + (298 + i) = 336 + i from by omega] at e
  exact e
theorem xpFrame_at {ad : Nat → Nat} {kk : Nat → ClassId} {V : Vf} {L : Lf} {Z : XZ} {i : Nat} {v : Int32} (h : i < Z.nf) : (xw ad kk V L Z).set (336 + i) (Z.fa i, .inr (4, (xfFrame V i).set 17 (.int v))) = xw ad kk (up2 V 84 i v) L Z := by
  have e : (xw ad kk V L Z).set (38 + (298 + i)) (Z.fa i, .inr (4, (xfFrame V i).set 17 (.int v))) = xw ad kk (up2 V 84 i v) L Z := by
    refine xw_bs (by omega) (xs_up (by decide)) ?_ (fun j hj => xb_up (fun e => hj (Option.some.inj e).symm))
    rw [xjFrame h]
    unfold xeFrame xfFrame
    rw [up2_ss]
    rfl
  rw [show 38 + (298 + i) = 336 + i from by omega] at e
  exact e
theorem xpFrame_base {ad : Nat → Nat} {kk : Nat → ClassId} {V : Vf} {L : Lf} {Z : XZ} {i : Nat} {v : Int32} (h : i < Z.nf) : (xw ad kk V L Z).set (336 + i) (Z.fa i, .inr (4, (xfFrame V i).set 18 (.int v))) = xw ad kk (up2 V 85 i v) L Z := by
  have e : (xw ad kk V L Z).set (38 + (298 + i)) (Z.fa i, .inr (4, (xfFrame V i).set 18 (.int v))) = xw ad kk (up2 V 85 i v) L Z := by
    refine xw_bs (by omega) (xs_up (by decide)) ?_ (fun j hj => xb_up (fun e => hj (Option.some.inj e).symm))
    rw [xjFrame h]
    unfold xeFrame xfFrame
    rw [up2_ss]
    rfl
  rw [show 38 + (298 + i) = 336 + i from by omega] at e
  exact e
theorem xpwords {ad : Nat → Nat} {kk : Nat → ClassId} {V : Vf} {L : Lf} {Z : XZ} {i e : Nat} {x : Int64} (h : i < 10) (he : e < 24) : (xw ad kk V L Z).set (50 + i) (ad (50 + i), .inl (kk (50 + i), xcap i, .inr (.inl (vp_updL (fun q => if q < 24 then L 44 (24 * i + q) else 0) e x)))) = xw ad kk V (upL L 44 (24 * i + e) x) Z := by
  suffices e9 : (xw ad kk V L Z).set (38 + (12 + i)) (ad (50 + i), .inl (kk (50 + i), xcap i, .inr (.inl (vp_updL (fun q => if q < 24 then L 44 (24 * i + q) else 0) e x)))) = xw ad kk V (upL L 44 (24 * i + e) x) Z by
    rw [show 38 + (12 + i) = 50 + i from by omega] at e9
    exact e9
  refine xw_bs (by omega) xs_L ?_ (fun j hj => xe_L (fun a => hj (by rw [← a.2]; omega)))
  rw [xjwords h]
  unfold xewords
  have e2 : (fun q => if q < 24 then upL L 44 (24 * i + e) x 44 (24 * i + q) else 0) = vp_updL (fun q => if q < 24 then L 44 (24 * i + q) else 0) e x := by
    funext q
    unfold vp_updL
    by_cases hq : q = e
    · rw [if_pos hq, if_pos (by omega), hq]
      unfold upL vp_updL
      rw [if_pos rfl, if_pos rfl]
    · rw [if_neg hq]
      show _ = if q < 24 then L 44 (24 * i + q) else 0
      by_cases h2 : q < 24
      · rw [if_pos h2, if_pos h2]
        exact upL_pl (fun a => hq (by omega))
      · rw [if_neg h2, if_neg h2]
  rw [e2]
theorem xptypeUnder {ad : Nat → Nat} {kk : Nat → ClassId} {V : Vf} {L : Lf} {Z : XZ} {i e : Nat} {x : Int32} (h : i < 2) (he : e < 24) : (xw ad kk V L Z).set (60 + i) (ad (60 + i), .inl (kk (60 + i), 24, .inl (upd (fun q => if q < 24 then V 45 (24 * i + q) else 0) e x))) = xw ad kk (up2 V 45 (24 * i + e) x) L Z := by
  suffices e9 : (xw ad kk V L Z).set (38 + (22 + i)) (ad (60 + i), .inl (kk (60 + i), 24, .inl (upd (fun q => if q < 24 then V 45 (24 * i + q) else 0) e x))) = xw ad kk (up2 V 45 (24 * i + e) x) L Z by
    rw [show 38 + (22 + i) = 60 + i from by omega] at e9
    exact e9
  refine xw_bs (by omega) (xs_up (by decide)) ?_ (fun j hj => xb_up (fun a => hj ?_))
  · rw [xjtypeUnder h]
    unfold xetypeUnder
    have e2 : (fun q => if q < 24 then up2 V 45 (24 * i + e) x 45 (24 * i + q) else 0) = upd (fun q => if q < 24 then V 45 (24 * i + q) else 0) e x := by
      funext q
      by_cases hq : q = e
      · rw [hq, if_pos he, up2_ss]
        exact pk_us.symm
      · rw [pk_un hq]
        by_cases h2 : q < 24
        · rw [if_pos h2, if_pos h2]
          exact up2_pl (fun a => hq (by omega))
        · rw [if_neg h2, if_neg h2]
    rw [e2]
  · have a2 : some (22 + (24 * i + e) / 24) = some j := a
    have a3 := Option.some.inj a2
    omega
theorem xpsettingValues {ad : Nat → Nat} {kk : Nat → ClassId} {V : Vf} {L : Lf} {Z : XZ} {i e : Nat} {x : Int32} (h : i < 2) (he : e < 12) : (xw ad kk V L Z).set (62 + i) (ad (62 + i), .inl (kk (62 + i), 12, .inl (upd (fun q => if q < 12 then V 46 (12 * i + q) else 0) e x))) = xw ad kk (up2 V 46 (12 * i + e) x) L Z := by
  suffices e9 : (xw ad kk V L Z).set (38 + (24 + i)) (ad (62 + i), .inl (kk (62 + i), 12, .inl (upd (fun q => if q < 12 then V 46 (12 * i + q) else 0) e x))) = xw ad kk (up2 V 46 (12 * i + e) x) L Z by
    rw [show 38 + (24 + i) = 62 + i from by omega] at e9
    exact e9
  refine xw_bs (by omega) (xs_up (by decide)) ?_ (fun j hj => xb_up (fun a => hj ?_))
  · rw [xjsettingValues h]
    unfold xesettingValues
    have e2 : (fun q => if q < 12 then up2 V 46 (12 * i + e) x 46 (12 * i + q) else 0) = upd (fun q => if q < 12 then V 46 (12 * i + q) else 0) e x := by
      funext q
      by_cases hq : q = e
      · rw [hq, if_pos he, up2_ss]
        exact pk_us.symm
      · rw [pk_un hq]
        by_cases h2 : q < 12
        · rw [if_pos h2, if_pos h2]
          exact up2_pl (fun a => hq (by omega))
        · rw [if_neg h2, if_neg h2]
    rw [e2]
  · have a2 : some (24 + (12 * i + e) / 12) = some j := a
    have a3 := Option.some.inj a2
    omega
theorem xpwrapOrder {ad : Nat → Nat} {kk : Nat → ClassId} {V : Vf} {L : Lf} {Z : XZ} {i e : Nat} {x : Int32} (h : i < 2) (he : e < 12) : (xw ad kk V L Z).set (68 + i) (ad (68 + i), .inl (kk (68 + i), 12, .inl (upd (fun q => if q < 12 then V 47 (12 * i + q) else 0) e x))) = xw ad kk (up2 V 47 (12 * i + e) x) L Z := by
  suffices e9 : (xw ad kk V L Z).set (38 + (30 + i)) (ad (68 + i), .inl (kk (68 + i), 12, .inl (upd (fun q => if q < 12 then V 47 (12 * i + q) else 0) e x))) = xw ad kk (up2 V 47 (12 * i + e) x) L Z by
    rw [show 38 + (30 + i) = 68 + i from by omega] at e9
    exact e9
  refine xw_bs (by omega) (xs_up (by decide)) ?_ (fun j hj => xb_up (fun a => hj ?_))
  · rw [xjwrapOrder h]
    unfold xewrapOrder
    have e2 : (fun q => if q < 12 then up2 V 47 (12 * i + e) x 47 (12 * i + q) else 0) = upd (fun q => if q < 12 then V 47 (12 * i + q) else 0) e x := by
      funext q
      by_cases hq : q = e
      · rw [hq, if_pos he, up2_ss]
        exact pk_us.symm
      · rw [pk_un hq]
        by_cases h2 : q < 12
        · rw [if_pos h2, if_pos h2]
          exact up2_pl (fun a => hq (by omega))
        · rw [if_neg h2, if_neg h2]
    rw [e2]
  · have a2 : some (30 + (12 * i + e) / 12) = some j := a
    have a3 := Option.some.inj a2
    omega
theorem xpcode {ad : Nat → Nat} {kk : Nat → ClassId} {V : Vf} {L : Lf} {Z : XZ} {i e : Nat} {x : Int32} (h : i < 2) (he : e < 8200) : (xw ad kk V L Z).set (70 + i) (ad (70 + i), .inl (kk (70 + i), 8200, .inl (upd (fun q => if q < 8200 then V 48 (8200 * i + q) else 0) e x))) = xw ad kk (up2 V 48 (8200 * i + e) x) L Z := by
  suffices e9 : (xw ad kk V L Z).set (38 + (32 + i)) (ad (70 + i), .inl (kk (70 + i), 8200, .inl (upd (fun q => if q < 8200 then V 48 (8200 * i + q) else 0) e x))) = xw ad kk (up2 V 48 (8200 * i + e) x) L Z by
    rw [show 38 + (32 + i) = 70 + i from by omega] at e9
    exact e9
  refine xw_bs (by omega) (xs_up (by decide)) ?_ (fun j hj => xb_up (fun a => hj ?_))
  · rw [xjcode h]
    unfold xecode
    have e2 : (fun q => if q < 8200 then up2 V 48 (8200 * i + e) x 48 (8200 * i + q) else 0) = upd (fun q => if q < 8200 then V 48 (8200 * i + q) else 0) e x := by
      funext q
      by_cases hq : q = e
      · rw [hq, if_pos he, up2_ss]
        exact pk_us.symm
      · rw [pk_un hq]
        by_cases h2 : q < 8200
        · rw [if_pos h2, if_pos h2]
          exact up2_pl (fun a => hq (by omega))
        · rw [if_neg h2, if_neg h2]
    rw [e2]
  · have a2 : some (32 + (8200 * i + e) / 8200) = some j := a
    have a3 := Option.some.inj a2
    omega
theorem xpneedTypes {ad : Nat → Nat} {kk : Nat → ClassId} {V : Vf} {L : Lf} {Z : XZ} {i e : Nat} {x : Int32} (h : i < 48) (he : e < 8) : (xw ad kk V L Z).set (120 + i) (ad (120 + i), .inl (kk (120 + i), 8, .inl (upd (fun q => if q < 8 then V 58 (8 * i + q) else 0) e x))) = xw ad kk (up2 V 58 (8 * i + e) x) L Z := by
  suffices e9 : (xw ad kk V L Z).set (38 + (82 + i)) (ad (120 + i), .inl (kk (120 + i), 8, .inl (upd (fun q => if q < 8 then V 58 (8 * i + q) else 0) e x))) = xw ad kk (up2 V 58 (8 * i + e) x) L Z by
    rw [show 38 + (82 + i) = 120 + i from by omega] at e9
    exact e9
  refine xw_bs (by omega) (xs_up (by decide)) ?_ (fun j hj => xb_up (fun a => hj ?_))
  · rw [xjneedTypes h]
    unfold xeneedTypes
    have e2 : (fun q => if q < 8 then up2 V 58 (8 * i + e) x 58 (8 * i + q) else 0) = upd (fun q => if q < 8 then V 58 (8 * i + q) else 0) e x := by
      funext q
      by_cases hq : q = e
      · rw [hq, if_pos he, up2_ss]
        exact pk_us.symm
      · rw [pk_un hq]
        by_cases h2 : q < 8
        · rw [if_pos h2, if_pos h2]
          exact up2_pl (fun a => hq (by omega))
        · rw [if_neg h2, if_neg h2]
    rw [e2]
  · have a2 : some (82 + (8 * i + e) / 8) = some j := a
    have a3 := Option.some.inj a2
    omega
theorem xpneedWords {ad : Nat → Nat} {kk : Nat → ClassId} {V : Vf} {L : Lf} {Z : XZ} {i e : Nat} {x : Int32} (h : i < 48) (he : e < 8) : (xw ad kk V L Z).set (168 + i) (ad (168 + i), .inl (kk (168 + i), 8, .inl (upd (fun q => if q < 8 then V 59 (8 * i + q) else 0) e x))) = xw ad kk (up2 V 59 (8 * i + e) x) L Z := by
  suffices e9 : (xw ad kk V L Z).set (38 + (130 + i)) (ad (168 + i), .inl (kk (168 + i), 8, .inl (upd (fun q => if q < 8 then V 59 (8 * i + q) else 0) e x))) = xw ad kk (up2 V 59 (8 * i + e) x) L Z by
    rw [show 38 + (130 + i) = 168 + i from by omega] at e9
    exact e9
  refine xw_bs (by omega) (xs_up (by decide)) ?_ (fun j hj => xb_up (fun a => hj ?_))
  · rw [xjneedWords h]
    unfold xeneedWords
    have e2 : (fun q => if q < 8 then up2 V 59 (8 * i + e) x 59 (8 * i + q) else 0) = upd (fun q => if q < 8 then V 59 (8 * i + q) else 0) e x := by
      funext q
      by_cases hq : q = e
      · rw [hq, if_pos he, up2_ss]
        exact pk_us.symm
      · rw [pk_un hq]
        by_cases h2 : q < 8
        · rw [if_pos h2, if_pos h2]
          exact up2_pl (fun a => hq (by omega))
        · rw [if_neg h2, if_neg h2]
    rw [e2]
  · have a2 : some (130 + (8 * i + e) / 8) = some j := a
    have a3 := Option.some.inj a2
    omega
theorem xpneedKinds {ad : Nat → Nat} {kk : Nat → ClassId} {V : Vf} {L : Lf} {Z : XZ} {i e : Nat} {x : Int32} (h : i < 48) (he : e < 8) : (xw ad kk V L Z).set (216 + i) (ad (216 + i), .inl (kk (216 + i), 8, .inl (upd (fun q => if q < 8 then V 60 (8 * i + q) else 0) e x))) = xw ad kk (up2 V 60 (8 * i + e) x) L Z := by
  suffices e9 : (xw ad kk V L Z).set (38 + (178 + i)) (ad (216 + i), .inl (kk (216 + i), 8, .inl (upd (fun q => if q < 8 then V 60 (8 * i + q) else 0) e x))) = xw ad kk (up2 V 60 (8 * i + e) x) L Z by
    rw [show 38 + (178 + i) = 216 + i from by omega] at e9
    exact e9
  refine xw_bs (by omega) (xs_up (by decide)) ?_ (fun j hj => xb_up (fun a => hj ?_))
  · rw [xjneedKinds h]
    unfold xeneedKinds
    have e2 : (fun q => if q < 8 then up2 V 60 (8 * i + e) x 60 (8 * i + q) else 0) = upd (fun q => if q < 8 then V 60 (8 * i + q) else 0) e x := by
      funext q
      by_cases hq : q = e
      · rw [hq, if_pos he, up2_ss]
        exact pk_us.symm
      · rw [pk_un hq]
        by_cases h2 : q < 8
        · rw [if_pos h2, if_pos h2]
          exact up2_pl (fun a => hq (by omega))
        · rw [if_neg h2, if_neg h2]
    rw [e2]
  · have a2 : some (178 + (8 * i + e) / 8) = some j := a
    have a3 := Option.some.inj a2
    omega
theorem xpmethodStarts {ad : Nat → Nat} {kk : Nat → ClassId} {V : Vf} {L : Lf} {Z : XZ} {i e : Nat} {x : Int32} (h : i < 48) (he : e < 20) : (xw ad kk V L Z).set (264 + i) (ad (264 + i), .inl (kk (264 + i), 20, .inl (upd (fun q => if q < 20 then V 61 (20 * i + q) else 0) e x))) = xw ad kk (up2 V 61 (20 * i + e) x) L Z := by
  suffices e9 : (xw ad kk V L Z).set (38 + (226 + i)) (ad (264 + i), .inl (kk (264 + i), 20, .inl (upd (fun q => if q < 20 then V 61 (20 * i + q) else 0) e x))) = xw ad kk (up2 V 61 (20 * i + e) x) L Z by
    rw [show 38 + (226 + i) = 264 + i from by omega] at e9
    exact e9
  refine xw_bs (by omega) (xs_up (by decide)) ?_ (fun j hj => xb_up (fun a => hj ?_))
  · rw [xjmethodStarts h]
    unfold xemethodStarts
    have e2 : (fun q => if q < 20 then up2 V 61 (20 * i + e) x 61 (20 * i + q) else 0) = upd (fun q => if q < 20 then V 61 (20 * i + q) else 0) e x := by
      funext q
      by_cases hq : q = e
      · rw [hq, if_pos he, up2_ss]
        exact pk_us.symm
      · rw [pk_un hq]
        by_cases h2 : q < 20
        · rw [if_pos h2, if_pos h2]
          exact up2_pl (fun a => hq (by omega))
        · rw [if_neg h2, if_neg h2]
    rw [e2]
  · have a2 : some (226 + (20 * i + e) / 20) = some j := a
    have a3 := Option.some.inj a2
    omega
theorem xgHouse {ad : Nat → Nat} {kk : Nat → ClassId} {V : Vf} {L : Lf} {Z : XZ} : (xw ad kk V L Z)[0]? = some (ad 0, .inr (11, xfHouse ad V L Z)) := rfl
theorem xgReader {ad : Nat → Nat} {kk : Nat → ClassId} {V : Vf} {L : Lf} {Z : XZ} : (xw ad kk V L Z)[1]? = some (ad 1, .inr (1, xfReader ad V L Z)) := rfl
theorem xgChecker {ad : Nat → Nat} {kk : Nat → ClassId} {V : Vf} {L : Lf} {Z : XZ} : (xw ad kk V L Z)[2]? = some (ad 2, .inr (2, xfChecker ad V L Z)) := rfl
theorem xgStock {ad : Nat → Nat} {kk : Nat → ClassId} {V : Vf} {L : Lf} {Z : XZ} : (xw ad kk V L Z)[3]? = some (ad 3, .inr (8, xfStock ad V L Z)) := rfl
theorem xgNotes {ad : Nat → Nat} {kk : Nat → ClassId} {V : Vf} {L : Lf} {Z : XZ} : (xw ad kk V L Z)[4]? = some (ad 4, .inr (7, xfNotes ad V L Z)) := rfl
theorem xgMachine {ad : Nat → Nat} {kk : Nat → ClassId} {V : Vf} {L : Lf} {Z : XZ} : (xw ad kk V L Z)[5]? = some (ad 5, .inr (5, xfMachine ad V L Z)) := rfl
theorem xgTape {ad : Nat → Nat} {kk : Nat → ClassId} {V : Vf} {L : Lf} {Z : XZ} : (xw ad kk V L Z)[6]? = some (ad 6, .inr (9, xfTape ad V L Z)) := rfl
def bX0 (k : Nat) : Int × Int := match k with
  | 6 => (0, 1)
  | 7 => (0, 1)
  | 8 => (0, 1)
  | _ => (-2147483648, 2147483647)
def bX1 (k : Nat) : Int × Int := match k with
  | 1 => ((-1), 1)
  | 2 => ((-1), 47)
  | 4 => (0, 2)
  | 6 => ((-1), 23)
  | 8 => (0, 999999999)
  | _ => (-2147483648, 2147483647)
def bX2 (k : Nat) : Int × Int := match k with
  | 6 => ((-1), 1)
  | 7 => (0, 1000000)
  | _ => (-2147483648, 2147483647)
def bX3 (k : Nat) : Int × Int := match k with
  | 12 => (1, 40)
  | 13 => (0, 300)
  | 15 => (0, 262144)
  | _ => (-2147483648, 2147483647)
def bX4 (k : Nat) : Int × Int := match k with
  | 5 => (0, 100)
  | 6 => (0, 300)
  | 9 => (0, 1)
  | _ => (-2147483648, 2147483647)
def bX5 (k : Nat) : Int × Int := match k with
  | 5 => (0, 1)
  | 6 => (0, 400)
  | 7 => (0, 2048)
  | 8 => (0, 300)
  | 9 => (0, 3)
  | 13 => (0, 3000)
  | 14 => (0, 60000)
  | _ => (-2147483648, 2147483647)
def bX6 (k : Nat) : Int × Int := match k with
  | 5 => (0, 4000)
  | 6 => (0, 4000)
  | 7 => (0, 4000)
  | 8 => (0, 4000)
  | 10 => (0, 4000)
  | _ => (-2147483648, 2147483647)
def bX (c k : Nat) : Int × Int := match c with
  | 0 => bX0 k
  | 1 => bX1 k
  | 2 => bX2 k
  | 3 => bX3 k
  | 4 => bX4 k
  | 5 => bX5 k
  | 6 => bX6 k
  | 43 => (0, (xcap k : Int))
  | 13 => (0, 4000)
  | 17 => ((-100), 24)
  | 19 => (0, 23)
  | 20 => ((-2), 23)
  | 22 => (0, 39)
  | 23 => (0, 1)
  | 25 => ((-1), 299)
  | 26 => (0, 23)
  | 27 => (0, 39)
  | 30 => ((-1), 262143)
  | 32 => ((-1), 262143)
  | 40 => (0, 299)
  | 41 => (0, 12)
  | 42 => (0, 8200)
  | 47 => (0, 11)
  | 49 => (0, 8)
  | 51 => (0, 3)
  | 54 => ((-1), 11)
  | 56 => ((-1), 8200)
  | 57 => ((-1), 8200)
  | 61 => ((-1), 8200)
  | 66 => (0, 8200)
  | 71 => ((-1), 23)
  | 72 => (0, 39)
  | 73 => (0, 19)
  | 75 => (0, 12)
  | 77 => (0, 19)
  | 80 => (0, 300)
  | 83 => (0, 1)
  | 84 => (0, 2147483647)
  | 85 => (0, 2048)
  | _ => (-2147483648, 2147483647)
theorem rfN_r {ad : Nat → Nat} {b n : Nat} {x : Int32} (h : x.toInt = (n : Int)) : rfN ad b x = .ref (ad (b + n)) := by
  unfold rfN
  have e : Int32.toNatClampNeg x = n := by have := i_clamp (x := x) rfl (by (first | exact om_c441fb90eac3 h | omega)); omega
  rw [if_neg (by omega), e]
theorem rfN_n {ad : Nat → Nat} {b : Nat} {x : Int32} (h : x.toInt < 0) : rfN ad b x = .null := by
  unfold rfN
  rw [if_pos h]
theorem rfP {ad : Nat → Nat} {b n : Nat} {x : Int32} (h : x.toInt = (n : Int)) : Value.ref (ad (b + Int32.toNatClampNeg x)) = .ref (ad (b + n)) := by
  have e : Int32.toNatClampNeg x = n := by have := i_clamp (x := x) rfl (by (first | exact om_c441fb90eac3 h | omega)); omega
  rw [e]
theorem xow_s {c k : Nat} (h : c ≤ 40) : xow c k = none := by
  unfold xow
  repeat rw [if_neg (by omega)]
theorem xb_si {ad : Nat → Nat} {kk : Nat → ClassId} {V : Vf} {L : Lf} {Z : XZ} {c k : Nat} {v : Int32} (h : c ≤ 40) (j : Nat) : xb ad kk (up2 V c k v) L Z j = xb ad kk V L Z j := xb_up (by rw [xow_s h]; exact fun e => nomatch e)
section GXS
variable {p : Program} {l : Launch} {e : Env} {R : Room} {s : State} {m : MethodId} {args : Array Value} {below : List Frame} {meth : Method} {c : Code} {H : Heap} {locs : List Loc} {cells slots : Nat} {Q : State → Prop}
variable {cc : ByteArray} {pc : Nat} {ls : Array Slot} {st0 rest : List Value} {D : va_G} {ks : KS} {A : Nat → Prop} {tys : List (ClassId × FieldType)} {ws : va_W}
theorem gA_runS {y : MethodName} {bytes : ByteArray} {maxL nL n index : Nat} {ret : Option FieldType} {rm : Room} {Qc : Array Value → State → Outcome → State → Prop} {own : String} {As : List Value}
    (hx : p.tables.exec = Jvm.exec) (hb : c.code = cc) (hml : c.maxLocals = nL) (hown : s.vm.findClass own = some m.cls) (hg : ∀ w ∈ GW, w.before args s = true) (hP : va_P D vwCl ws H) (hD : va_D A ws) (hK : va_K D vwCl tys s) (hS : va_S A s.heap H locs) (hA : ∀ q, s.heap.size ≤ q → A q) (hnw : nw s) (hgk : gk ks A s s.heap)
    (hM : Met l y (Cond.code y bytes maxL ret :: GW) rm (va_Pc As (gp D ks ws tys H.size)) Qc rm.cells rm.slots (va_A ws H.size))
    (w1 : Cond.methodLink own index y ∈ GW) (w2 : Cond.static y ∈ GW) (w4 : Cond.initialized y.cls ∈ GW) (w5 : Cond.code y bytes maxL ret ∈ GW)
    (hd : y.cls ≠ "java/lang/invoke/MethodHandle" ∧ y.cls ≠ "java/lang/invoke/VarHandle" ∧ (parseMethodDescriptor y.desc).map (fun d => d.parameters.length) = some n) (hR : rm.frames + 1 ≤ R.frames ∧ 8 + (maxL + 11) + rm.locals ≤ R.locals)
    (hn2 : As.length = n) (hsize : ls.size = nL) (hst : st0 = As.reverse ++ rest) (hW : (rest.map fun v => v.category).sum ≤ 8) (hdg : decode cc pc = .ok (.invokestatic index, 3)) (hf : cells + rm.cells ≤ R.cells ∧ slots + rm.slots ≤ R.slots) :
    va_Run p l e R s m args below meth c H locs cells slots rm.cells rm.slots (F0 m pc ls st0) rest (Qc As.toArray) (va_A ws H.size) :=
  va_runS (As := As) (rest := rest) ⟨hx, hb, hml, hown, hg⟩ hM ⟨callB_of n hg (gw_good gw_self (gw_cons w5 gw_self)) rfl rfl rfl (hg _ w4) (hg _ w1) hd hR, hg _ w2⟩ ⟨gp_blind, gA_cut hP hD hK hS hA hnw hgk⟩ rfl hn2 hsize hst (lv_room hW) hdg hf
end GXS
section GX
variable {p : Program} {l : Launch} {e : Env} {R : Room} {s : State} {m : MethodId} {args : Array Value} {below : List Frame} {meth : Method} {c : Code} {H : Heap} {locs : List Loc} {cells slots : Nat} {Q : State → Prop}
variable {pc : Nat} {ls : Array Slot} {rest : List Value}
theorem g_topv {x v : Value} (h : x = v) (k : W p l e R s m args below meth c H locs cells slots Q (F0 m pc ls (v :: rest))) : W p l e R s m args below meth c H locs cells slots Q (F0 m pc ls (x :: rest)) := h ▸ k
end GX
theorem xcap_0 {b : Nat} : xcap (5 * b + 0) = 24 := by
  unfold xcap
  rw [show (5 * b + 0) % 5 = 0 from by omega]
  rfl
theorem xcap_1 {b : Nat} : xcap (5 * b + 1) = 12 := by
  unfold xcap
  rw [show (5 * b + 1) % 5 = 1 from by omega]
  rfl
theorem xcap_2 {b : Nat} : xcap (5 * b + 2) = 24 := by
  unfold xcap
  rw [show (5 * b + 2) % 5 = 2 from by omega]
  rfl
theorem xcap_3 {b : Nat} : xcap (5 * b + 3) = 20 := by
  unfold xcap
  rw [show (5 * b + 3) % 5 = 3 from by omega]
  rfl
theorem xcap_4 {b : Nat} : xcap (5 * b + 4) = 20 := by
  unfold xcap
  rw [show (5 * b + 4) % 5 = 4 from by omega]
  rfl
theorem xcap_le (n : Nat) : 12 ≤ xcap n ∧ xcap n ≤ 24 := by
  unfold xcap
  split <;> decide
theorem xr_rbook {ad : Nat → Nat} {kk : Nat → ClassId} {V : Vf} {L : Lf} {Z : XZ} {b : Nat} (h : b < 2) : (xw ad kk V L Z).set 1 (ad 1, .inr (1, (xfReader ad V L Z).set 1 (.ref (ad (38 + b))))) = xw ad kk (up2 V 1 1 (nI b)) L Z := by
  have e2 : xfReader ad (up2 V 1 1 (nI b)) L Z = (xfReader ad V L Z).set 1 (.ref (ad (38 + b))) := by
    unfold xfReader
    rw [up2_ss, rfN_r (nI_toInt (n := b) (by omega))]
    rfl
  refine xw_ss (by decide) ?_ (xb_si (by decide))
  unfold xs
  rw [e2]
  rfl
theorem xr_owner {ad : Nat → Nat} {kk : Nat → ClassId} {V : Vf} {L : Lf} {Z : XZ} {b : Nat} (h : b < 48) : (xw ad kk V L Z).set 1 (ad 1, .inr (1, (xfReader ad V L Z).set 2 (.ref (ad (72 + b))))) = xw ad kk (up2 V 1 2 (nI b)) L Z := by
  have e2 : xfReader ad (up2 V 1 2 (nI b)) L Z = (xfReader ad V L Z).set 2 (.ref (ad (72 + b))) := by
    unfold xfReader
    rw [up2_ss, rfN_r (nI_toInt (n := b) (by omega))]
    rfl
  refine xw_ss (by decide) ?_ (xb_si (by decide))
  unfold xs
  rw [e2]
  rfl
theorem xr_owner_n {ad : Nat → Nat} {kk : Nat → ClassId} {V : Vf} {L : Lf} {Z : XZ} : (xw ad kk V L Z).set 1 (ad 1, .inr (1, (xfReader ad V L Z).set 2 .null)) = xw ad kk (up2 V 1 2 (-1)) L Z := by
  have e2 : xfReader ad (up2 V 1 2 (-1)) L Z = (xfReader ad V L Z).set 2 .null := by
    unfold xfReader
    rw [up2_ss, rfN_n (x := (-1 : Int32)) (by decide)]
    rfl
  refine xw_ss (by decide) ?_ (xb_si (by decide))
  unfold xs
  rw [e2]
  rfl
theorem xr_cbook {ad : Nat → Nat} {kk : Nat → ClassId} {V : Vf} {L : Lf} {Z : XZ} {b : Nat} (h : b < 2) : (xw ad kk V L Z).set 2 (ad 2, .inr (2, (xfChecker ad V L Z).set 6 (.ref (ad (38 + b))))) = xw ad kk (up2 V 2 6 (nI b)) L Z := by
  have e2 : xfChecker ad (up2 V 2 6 (nI b)) L Z = (xfChecker ad V L Z).set 6 (.ref (ad (38 + b))) := by
    unfold xfChecker
    rw [up2_ss, rfN_r (nI_toInt (n := b) (by omega))]
    rfl
  refine xw_ss (by decide) ?_ (xb_si (by decide))
  unfold xs
  rw [e2]
  rfl
theorem xr_mbook {ad : Nat → Nat} {kk : Nat → ClassId} {V : Vf} {L : Lf} {Z : XZ} {b : Nat} (h : b < 2) : (xw ad kk V L Z).set 5 (ad 5, .inr (5, (xfMachine ad V L Z).set 5 (.ref (ad (38 + b))))) = xw ad kk (up2 V 5 5 (nI b)) L Z := by
  have e2 : xfMachine ad (up2 V 5 5 (nI b)) L Z = (xfMachine ad V L Z).set 5 (.ref (ad (38 + b))) := by
    unfold xfMachine
    rw [up2_ss, rfP (nI_toInt (n := b) (by omega))]
    rfl
  refine xw_ss (by decide) ?_ (xb_si (by decide))
  unfold xs
  rw [e2]
  rfl
theorem xr_shelf {ad : Nat → Nat} {kk : Nat → ClassId} {V : Vf} {L : Lf} {Z : XZ} {b : Nat} (h : b < 2) : (xw ad kk V L Z).set 0 (ad 0, .inr (11, (xfHouse ad V L Z).set 6 (.ref (ad (38 + b))))) = xw ad kk (up2 V 0 6 (nI b)) L Z := by
  have e2 : xfHouse ad (up2 V 0 6 (nI b)) L Z = (xfHouse ad V L Z).set 6 (.ref (ad (38 + b))) := by
    unfold xfHouse
    rw [up2_ss, rfP (nI_toInt (n := b) (by omega))]
    rfl
  refine xw_ss (by decide) ?_ (xb_si (by decide))
  unfold xs
  rw [e2]
  rfl
theorem xr_spare {ad : Nat → Nat} {kk : Nat → ClassId} {V : Vf} {L : Lf} {Z : XZ} {b : Nat} (h : b < 2) : (xw ad kk V L Z).set 0 (ad 0, .inr (11, (xfHouse ad V L Z).set 7 (.ref (ad (38 + b))))) = xw ad kk (up2 V 0 7 (nI b)) L Z := by
  have e2 : xfHouse ad (up2 V 0 7 (nI b)) L Z = (xfHouse ad V L Z).set 7 (.ref (ad (38 + b))) := by
    unfold xfHouse
    rw [up2_ss, rfP (nI_toInt (n := b) (by omega))]
    rfl
  refine xw_ss (by decide) ?_ (xb_si (by decide))
  unfold xs
  rw [e2]
  rfl
/-! which of the many may have changed -/
def xN (n : Nat) (x : Nat) : Nat × Nat := if x = 43 then (n, n + 1) else (0, 0)
def xI (i : Nat) (x : Nat) : Nat × Nat := if 49 ≤ x ∧ x ≤ 57 then (i, i + 1) else if 58 ≤ x ∧ x ≤ 60 then (8 * i, 8 * i + 8) else if x = 61 then (20 * i, 20 * i + 20) else (0, 0)
def xR (b : Nat) (x : Nat) : Nat × Nat := if x ≤ 42 then (b, b + 1) else if x = 43 then (5 * b, 5 * b + 5) else if x = 44 then (0, 0) else if x = 45 then (24 * b, 24 * b + 24) else if x = 46 ∨ x = 47 then (12 * b, 12 * b + 12) else if x = 48 then (8200 * b, 8200 * b + 8200) else if x ≤ 57 then (24 * b, 24 * b + 24) else if x ≤ 60 then (192 * b, 192 * b + 192) else if x = 61 then (480 * b, 480 * b + 480) else (12 * b, 12 * b + 12)
def frX (R : Nat → Nat × Nat) (V W : Vf) : Prop := ∀ x k, 41 ≤ x ∧ x ≤ 66 → (k < (R x).1 ∨ (R x).2 ≤ k) → W x k = V x k
theorem frX.rf {R : Nat → Nat × Nat} {V : Vf} : frX R V V := fun _ _ _ _ => rfl
theorem frX.tr {R : Nat → Nat × Nat} {V W X : Vf} (h : frX R V W) (h2 : frX R W X) : frX R V X := fun x k a b => (h2 x k a b).trans (h x k a b)
theorem frX.up {R : Nat → Nat × Nat} {V V1 V2 : Vf} {c k : Nat} {v : Int32} (h : frX R V V1) (e : V2 = up2 V1 c k v) (hk : ¬ (41 ≤ c ∧ c ≤ 66) ∨ ((R c).1 ≤ k ∧ k < (R c).2)) : frX R V V2 := by
  intro x j hx hj
  by_cases hc : x = c
  · subst hc
    rcases hk with hk | hk
    · exact absurd hx hk
    · exact (up2_k e (by omega)).trans (h x j hx hj)
  · exact (up2_o e hc).trans (h x j hx hj)
theorem frX.ag {R : Nat → Nat × Nat} {fs : List (Nat × Nat)} {cs : List Nat} {V W : Vf} (a : agr fs cs V W) (h1 : ∀ y ∈ fs, y.1 ≤ 40) (h2 : ∀ y ∈ cs, ¬ (41 ≤ y ∧ y ≤ 66)) : frX R V W := by
  intro x k hx _
  refine a x k ?_
  unfold wrL
  rw [Bool.or_eq_false_iff]
  refine ⟨?_, ?_⟩
  · rw [← Bool.not_eq_true]
    intro q
    have := h1 _ (List.contains_iff_mem.mp q)
    have : x ≤ 40 := this
    omega
  · rw [← Bool.not_eq_true]
    intro q
    exact h2 _ (List.contains_iff_mem.mp q) hx
theorem frX_NB {V W : Vf} {n b : Nat} (h : frX (xN n) V W) (h1 : 5 * b ≤ n) (h2 : n < 5 * b + 5) : frX (xR b) V W := by
  intro x k hx hk
  refine h x k hx ?_
  unfold xN
  by_cases hc : x = 43
  · subst hc
    have hk2 : k < 5 * b ∨ 5 * b + 5 ≤ k := hk
    rw [if_pos rfl]
    show k < n ∨ n + 1 ≤ k
    omega
  · rw [if_neg hc]
    exact Or.inr (Nat.zero_le _)
theorem frX_IB {V W : Vf} {i b : Nat} (h : frX (xI i) V W) (h1 : 24 * b ≤ i) (h2 : i < 24 * b + 24) : frX (xR b) V W := by
  intro x k hx hk
  refine h x k hx ?_
  unfold xI
  by_cases c1 : 49 ≤ x ∧ x ≤ 57
  · rw [if_pos c1]
    have e : xR b x = (24 * b, 24 * b + 24) := by
      unfold xR
      rw [if_neg (by omega), if_neg (by omega), if_neg (by omega), if_neg (by omega), if_neg (by omega), if_neg (by omega), if_pos (by omega)]
    rw [e] at hk
    have hk2 : k < 24 * b ∨ 24 * b + 24 ≤ k := hk
    show k < i ∨ i + 1 ≤ k
    omega
  · rw [if_neg c1]
    by_cases c2 : 58 ≤ x ∧ x ≤ 60
    · rw [if_pos c2]
      have e : xR b x = (192 * b, 192 * b + 192) := by
        unfold xR
        rw [if_neg (by omega), if_neg (by omega), if_neg (by omega), if_neg (by omega), if_neg (by omega), if_neg (by omega), if_neg (by omega), if_pos (by omega)]
      rw [e] at hk
      have hk2 : k < 192 * b ∨ 192 * b + 192 ≤ k := hk
      show k < 8 * i ∨ 8 * i + 8 ≤ k
      omega
    · rw [if_neg c2]
      by_cases c3 : x = 61
      · rw [if_pos c3]
        have e : xR b x = (480 * b, 480 * b + 480) := by
          unfold xR
          rw [if_neg (by omega), if_neg (by omega), if_neg (by omega), if_neg (by omega), if_neg (by omega), if_neg (by omega), if_neg (by omega), if_neg (by omega), if_pos (by omega)]
        rw [e] at hk
        have hk2 : k < 480 * b ∨ 480 * b + 480 ≤ k := hk
        show k < 20 * i ∨ 20 * i + 20 ≤ k
        omega
      · rw [if_neg c3]
        exact Or.inr (Nat.zero_le _)
end
section
theorem w251 : Cond.code yX9_isDigit cX9_isDigit 1 (some .boolean) ∈ GW := gw_k tk9_1 96 (rfl) rfl
theorem w249 : Cond.methodLink RX9 75 yX9_isDigit ∈ GW := gw_k tk9_1 94 (by decide +kernel) rfl
theorem w157 : Cond.initialized RX9 ∈ GW := gw_k tk9_1 2 (by decide +kernel) rfl
theorem w250 : Cond.static yX9_isDigit ∈ GW := gw_k tk9_1 95 (by decide +kernel) rfl
theorem hdS_yX9_isDigit : yX9_isDigit.cls ≠ "java/lang/invoke/MethodHandle" ∧ yX9_isDigit.cls ≠ "java/lang/invoke/VarHandle" ∧ (parseMethodDescriptor yX9_isDigit.desc).map (fun d => d.parameters.length) = some 1 := by decide +kernel
theorem w253 : Cond.fieldLink RX9 15 "WiringHouse$Tape" "keywords" "[J" ∈ GW := gw_k tk9_1 98 (by decide +kernel) rfl
theorem w258 : Cond.fieldLink RX9 47 "WiringHouse$Tape" "length" "I" ∈ GW := gw_k tk9_1 103 (by decide +kernel) rfl
theorem w254 : Cond.fieldLink RX9 19 "WiringHouse$Tape" "kinds" "[I" ∈ GW := gw_k tk9_1 99 (by decide +kernel) rfl
theorem w261 : Cond.fieldLink RX9 59 "WiringHouse$Tape" "looking" "I" ∈ GW := gw_k tk9_1 106 (by decide +kernel) rfl
theorem w264 : Cond.fieldLink RX9 65 "WiringHouse$Tape" "kind" "I" ∈ GW := gw_k tk9_1 109 (by decide +kernel) rfl
theorem w255 : Cond.fieldLink RX9 23 "WiringHouse$Tape" "starts" "[I" ∈ GW := gw_k tk9_1 100 (by decide +kernel) rfl
theorem w265 : Cond.fieldLink RX9 68 "WiringHouse$Tape" "start" "I" ∈ GW := gw_k tk9_1 110 (by decide +kernel) rfl
theorem w256 : Cond.fieldLink RX9 26 "WiringHouse$Tape" "values" "[J" ∈ GW := gw_k tk9_1 101 (by decide +kernel) rfl
theorem w268 : Cond.fieldLink RX9 71 "WiringHouse$Tape" "value" "J" ∈ GW := gw_k tk9_1 113 (by decide +kernel) rfl
theorem w260 : Cond.fieldLink RX9 53 "WiringHouse$Tape" "tokens" "I" ∈ GW := gw_k tk9_1 105 (by decide +kernel) rfl
theorem w252 : Cond.fieldLink RX9 9 "WiringHouse$Tape" "signs" "[B" ∈ GW := gw_k tk9_1 97 (by decide +kernel) rfl
theorem w259 : Cond.fieldLink RX9 50 "WiringHouse$Tape" "position" "I" ∈ GW := gw_k tk9_1 104 (by decide +kernel) rfl
theorem w778 : Cond.constantLong RX9 93 10 ∈ GW := gw_k tk9_3 143 (by decide +kernel) rfl
theorem w779 : Cond.constantLong RX9 95 48 ∈ GW := gw_k tk9_3 144 (by decide +kernel) rfl
theorem w480 : Cond.fieldLink RX6 15 "WiringHouse$Names" "size" "I" ∈ GW := gw_k tk9_2 85 (by decide +kernel) rfl
theorem w479 : Cond.fieldLink RX6 9 "WiringHouse$Names" "words" "[J" ∈ GW := gw_k tk9_2 84 (by decide +kernel) rfl
theorem w440 : Cond.fieldLink RX7 27 "WiringHouse$Notes" "thingCount" "I" ∈ GW := gw_k tk9_2 45 (by decide +kernel) rfl
theorem w441 : Cond.fieldLink RX7 31 "WiringHouse$Notes" "closingCount" "I" ∈ GW := gw_k tk9_2 46 (by decide +kernel) rfl
theorem w442 : Cond.fieldLink RX7 34 "WiringHouse$Notes" "causeNeeds" "I" ∈ GW := gw_k tk9_2 47 (by decide +kernel) rfl
theorem w443 : Cond.fieldLink RX7 37 "WiringHouse$Notes" "causeKind" "I" ∈ GW := gw_k tk9_2 48 (by decide +kernel) rfl
theorem w444 : Cond.fieldLink RX7 40 "WiringHouse$Notes" "listening" "Z" ∈ GW := gw_k tk9_2 49 (by decide +kernel) rfl
theorem w435 : Cond.fieldLink RX7 9 "WiringHouse$Notes" "thingKinds" "[I" ∈ GW := gw_k tk9_2 40 (by decide +kernel) rfl
theorem w436 : Cond.fieldLink RX7 15 "WiringHouse$Notes" "things" "[I" ∈ GW := gw_k tk9_2 41 (by decide +kernel) rfl
theorem w437 : Cond.fieldLink RX7 18 "WiringHouse$Notes" "thingArgs" "[I" ∈ GW := gw_k tk9_2 42 (by decide +kernel) rfl
theorem w438 : Cond.fieldLink RX7 21 "WiringHouse$Notes" "closings" "[I" ∈ GW := gw_k tk9_2 43 (by decide +kernel) rfl
theorem w439 : Cond.fieldLink RX7 24 "WiringHouse$Notes" "closingKinds" "[I" ∈ GW := gw_k tk9_2 44 (by decide +kernel) rfl
theorem dk9_dX9_isDigit_0_0 : dOk cX9_isDigit [(0, .iload_n 0, 1), (1, .bipush 48, 2), (3, .if_icmp .lt 13, 3), (16, .iconst 0, 1), (17, .ireturn, 1), (6, .iload_n 0, 1), (7, .bipush 57, 2), (9, .if_icmp .gt 7, 3), (12, .iconst 1, 1), (13, .goto 4, 3)] = true := by decide +kernel
theorem dX9_isDigit_0 : decode cX9_isDigit 0 = .ok (.iload_n 0, 1) := dr9 dk9_dX9_isDigit_0_0 0 (0, .iload_n 0, 1) rfl
theorem dX9_isDigit_1 : decode cX9_isDigit 1 = .ok (.bipush 48, 2) := dr9 dk9_dX9_isDigit_0_0 1 (1, .bipush 48, 2) rfl
theorem dX9_isDigit_3 : decode cX9_isDigit 3 = .ok (.if_icmp .lt 13, 3) := dr9 dk9_dX9_isDigit_0_0 2 (3, .if_icmp .lt 13, 3) rfl
theorem dX9_isDigit_16 : decode cX9_isDigit 16 = .ok (.iconst 0, 1) := dr9 dk9_dX9_isDigit_0_0 3 (16, .iconst 0, 1) rfl
theorem dX9_isDigit_17 : decode cX9_isDigit 17 = .ok (.ireturn, 1) := dr9 dk9_dX9_isDigit_0_0 4 (17, .ireturn, 1) rfl
theorem dX9_isDigit_6 : decode cX9_isDigit 6 = .ok (.iload_n 0, 1) := dr9 dk9_dX9_isDigit_0_0 5 (6, .iload_n 0, 1) rfl
theorem dX9_isDigit_7 : decode cX9_isDigit 7 = .ok (.bipush 57, 2) := dr9 dk9_dX9_isDigit_0_0 6 (7, .bipush 57, 2) rfl
theorem dX9_isDigit_9 : decode cX9_isDigit 9 = .ok (.if_icmp .gt 7, 3) := dr9 dk9_dX9_isDigit_0_0 7 (9, .if_icmp .gt 7, 3) rfl
theorem dX9_isDigit_12 : decode cX9_isDigit 12 = .ok (.iconst 1, 1) := dr9 dk9_dX9_isDigit_0_0 8 (12, .iconst 1, 1) rfl
theorem dX9_isDigit_13 : decode cX9_isDigit 13 = .ok (.goto 4, 3) := dr9 dk9_dX9_isDigit_0_0 9 (13, .goto 4, 3) rfl
theorem dk9_dX9_isLetter_0_0 : dOk cX9_isLetter [(0, .iload_n 0, 1), (1, .bipush 97, 2), (3, .if_icmp .lt 13, 3), (16, .iconst 0, 1), (17, .ireturn, 1), (6, .iload_n 0, 1), (7, .bipush 122, 2), (9, .if_icmp .gt 7, 3), (12, .iconst 1, 1), (13, .goto 4, 3)] = true := by decide +kernel
theorem dX9_isLetter_0 : decode cX9_isLetter 0 = .ok (.iload_n 0, 1) := dr9 dk9_dX9_isLetter_0_0 0 (0, .iload_n 0, 1) rfl
theorem dX9_isLetter_1 : decode cX9_isLetter 1 = .ok (.bipush 97, 2) := dr9 dk9_dX9_isLetter_0_0 1 (1, .bipush 97, 2) rfl
theorem dX9_isLetter_3 : decode cX9_isLetter 3 = .ok (.if_icmp .lt 13, 3) := dr9 dk9_dX9_isLetter_0_0 2 (3, .if_icmp .lt 13, 3) rfl
theorem dX9_isLetter_16 : decode cX9_isLetter 16 = .ok (.iconst 0, 1) := dr9 dk9_dX9_isLetter_0_0 3 (16, .iconst 0, 1) rfl
theorem dX9_isLetter_17 : decode cX9_isLetter 17 = .ok (.ireturn, 1) := dr9 dk9_dX9_isLetter_0_0 4 (17, .ireturn, 1) rfl
theorem dX9_isLetter_6 : decode cX9_isLetter 6 = .ok (.iload_n 0, 1) := dr9 dk9_dX9_isLetter_0_0 5 (6, .iload_n 0, 1) rfl
theorem dX9_isLetter_7 : decode cX9_isLetter 7 = .ok (.bipush 122, 2) := dr9 dk9_dX9_isLetter_0_0 6 (7, .bipush 122, 2) rfl
theorem dX9_isLetter_9 : decode cX9_isLetter 9 = .ok (.if_icmp .gt 7, 3) := dr9 dk9_dX9_isLetter_0_0 7 (9, .if_icmp .gt 7, 3) rfl
theorem dX9_isLetter_12 : decode cX9_isLetter 12 = .ok (.iconst 1, 1) := dr9 dk9_dX9_isLetter_0_0 8 (12, .iconst 1, 1) rfl
theorem dX9_isLetter_13 : decode cX9_isLetter 13 = .ok (.goto 4, 3) := dr9 dk9_dX9_isLetter_0_0 9 (13, .goto 4, 3) rfl
theorem dk9_dX9_codeOf_0_0 : dOk cX9_codeOf [(0, .iload_n 0, 1), (1, .invokestatic 75, 3), (4, .ifCond .eq 13, 3), (17, .iload_n 0, 1), (18, .bipush 97, 2), (20, .isub, 1), (21, .iconst 1, 1), (22, .iadd, 1), (23, .ireturn, 1), (7, .iload_n 0, 1), (8, .bipush 48, 2), (10, .isub, 1), (11, .bipush 27, 2), (13, .iadd, 1), (14, .goto 9, 3)] = true := by decide +kernel
theorem dX9_codeOf_0 : decode cX9_codeOf 0 = .ok (.iload_n 0, 1) := dr9 dk9_dX9_codeOf_0_0 0 (0, .iload_n 0, 1) rfl
theorem dX9_codeOf_1 : decode cX9_codeOf 1 = .ok (.invokestatic 75, 3) := dr9 dk9_dX9_codeOf_0_0 1 (1, .invokestatic 75, 3) rfl
theorem dX9_codeOf_4 : decode cX9_codeOf 4 = .ok (.ifCond .eq 13, 3) := dr9 dk9_dX9_codeOf_0_0 2 (4, .ifCond .eq 13, 3) rfl
theorem dX9_codeOf_17 : decode cX9_codeOf 17 = .ok (.iload_n 0, 1) := dr9 dk9_dX9_codeOf_0_0 3 (17, .iload_n 0, 1) rfl
theorem dX9_codeOf_18 : decode cX9_codeOf 18 = .ok (.bipush 97, 2) := dr9 dk9_dX9_codeOf_0_0 4 (18, .bipush 97, 2) rfl
theorem dX9_codeOf_20 : decode cX9_codeOf 20 = .ok (.isub, 1) := dr9 dk9_dX9_codeOf_0_0 5 (20, .isub, 1) rfl
theorem dX9_codeOf_21 : decode cX9_codeOf 21 = .ok (.iconst 1, 1) := dr9 dk9_dX9_codeOf_0_0 6 (21, .iconst 1, 1) rfl
theorem dX9_codeOf_22 : decode cX9_codeOf 22 = .ok (.iadd, 1) := dr9 dk9_dX9_codeOf_0_0 7 (22, .iadd, 1) rfl
theorem dX9_codeOf_23 : decode cX9_codeOf 23 = .ok (.ireturn, 1) := dr9 dk9_dX9_codeOf_0_0 8 (23, .ireturn, 1) rfl
theorem dX9_codeOf_7 : decode cX9_codeOf 7 = .ok (.iload_n 0, 1) := dr9 dk9_dX9_codeOf_0_0 9 (7, .iload_n 0, 1) rfl
theorem dX9_codeOf_8 : decode cX9_codeOf 8 = .ok (.bipush 48, 2) := dr9 dk9_dX9_codeOf_0_0 10 (8, .bipush 48, 2) rfl
theorem dX9_codeOf_10 : decode cX9_codeOf 10 = .ok (.isub, 1) := dr9 dk9_dX9_codeOf_0_0 11 (10, .isub, 1) rfl
theorem dX9_codeOf_11 : decode cX9_codeOf 11 = .ok (.bipush 27, 2) := dr9 dk9_dX9_codeOf_0_0 12 (11, .bipush 27, 2) rfl
theorem dX9_codeOf_13 : decode cX9_codeOf 13 = .ok (.iadd, 1) := dr9 dk9_dX9_codeOf_0_0 13 (13, .iadd, 1) rfl
theorem dX9_codeOf_14 : decode cX9_codeOf 14 = .ok (.goto 9, 3) := dr9 dk9_dX9_codeOf_0_0 14 (14, .goto 9, 3) rfl
theorem dk9_dX9_kindOf_0_0 : dOk cX9_kindOf [(0, .iconst 0, 1), (1, .istore_n 3, 1), (2, .iload_n 3, 1), (3, .bipush 28, 2), (5, .if_icmp .ge 26, 3), (31, .iconst 3, 1), (32, .ireturn, 1), (8, .aload_n 0, 1), (9, .getfield 15, 3), (12, .iload_n 3, 1), (13, .laload, 1), (14, .lload_n 1, 1), (15, .lcmp, 1), (16, .ifCond .ne 9, 3), (25, .iinc 3 1, 3), (28, .goto (-26), 3), (19, .sipush 128, 3), (22, .iload_n 3, 1), (23, .iadd, 1), (24, .ireturn, 1)] = true := by decide +kernel
theorem dX9_kindOf_0 : decode cX9_kindOf 0 = .ok (.iconst 0, 1) := dr9 dk9_dX9_kindOf_0_0 0 (0, .iconst 0, 1) rfl
theorem dX9_kindOf_1 : decode cX9_kindOf 1 = .ok (.istore_n 3, 1) := dr9 dk9_dX9_kindOf_0_0 1 (1, .istore_n 3, 1) rfl
theorem dX9_kindOf_2 : decode cX9_kindOf 2 = .ok (.iload_n 3, 1) := dr9 dk9_dX9_kindOf_0_0 2 (2, .iload_n 3, 1) rfl
theorem dX9_kindOf_3 : decode cX9_kindOf 3 = .ok (.bipush 28, 2) := dr9 dk9_dX9_kindOf_0_0 3 (3, .bipush 28, 2) rfl
theorem dX9_kindOf_5 : decode cX9_kindOf 5 = .ok (.if_icmp .ge 26, 3) := dr9 dk9_dX9_kindOf_0_0 4 (5, .if_icmp .ge 26, 3) rfl
theorem dX9_kindOf_31 : decode cX9_kindOf 31 = .ok (.iconst 3, 1) := dr9 dk9_dX9_kindOf_0_0 5 (31, .iconst 3, 1) rfl
theorem dX9_kindOf_32 : decode cX9_kindOf 32 = .ok (.ireturn, 1) := dr9 dk9_dX9_kindOf_0_0 6 (32, .ireturn, 1) rfl
theorem dX9_kindOf_8 : decode cX9_kindOf 8 = .ok (.aload_n 0, 1) := dr9 dk9_dX9_kindOf_0_0 7 (8, .aload_n 0, 1) rfl
theorem dX9_kindOf_9 : decode cX9_kindOf 9 = .ok (.getfield 15, 3) := dr9 dk9_dX9_kindOf_0_0 8 (9, .getfield 15, 3) rfl
theorem dX9_kindOf_12 : decode cX9_kindOf 12 = .ok (.iload_n 3, 1) := dr9 dk9_dX9_kindOf_0_0 9 (12, .iload_n 3, 1) rfl
theorem dX9_kindOf_13 : decode cX9_kindOf 13 = .ok (.laload, 1) := dr9 dk9_dX9_kindOf_0_0 10 (13, .laload, 1) rfl
theorem dX9_kindOf_14 : decode cX9_kindOf 14 = .ok (.lload_n 1, 1) := dr9 dk9_dX9_kindOf_0_0 11 (14, .lload_n 1, 1) rfl
theorem dX9_kindOf_15 : decode cX9_kindOf 15 = .ok (.lcmp, 1) := dr9 dk9_dX9_kindOf_0_0 12 (15, .lcmp, 1) rfl
theorem dX9_kindOf_16 : decode cX9_kindOf 16 = .ok (.ifCond .ne 9, 3) := dr9 dk9_dX9_kindOf_0_0 13 (16, .ifCond .ne 9, 3) rfl
theorem dX9_kindOf_25 : decode cX9_kindOf 25 = .ok (.iinc 3 1, 3) := dr9 dk9_dX9_kindOf_0_0 14 (25, .iinc 3 1, 3) rfl
theorem dX9_kindOf_28 : decode cX9_kindOf 28 = .ok (.goto (-26), 3) := dr9 dk9_dX9_kindOf_0_0 15 (28, .goto (-26), 3) rfl
theorem dX9_kindOf_19 : decode cX9_kindOf 19 = .ok (.sipush 128, 3) := dr9 dk9_dX9_kindOf_0_0 16 (19, .sipush 128, 3) rfl
theorem dX9_kindOf_22 : decode cX9_kindOf 22 = .ok (.iload_n 3, 1) := dr9 dk9_dX9_kindOf_0_0 17 (22, .iload_n 3, 1) rfl
theorem dX9_kindOf_23 : decode cX9_kindOf 23 = .ok (.iadd, 1) := dr9 dk9_dX9_kindOf_0_0 18 (23, .iadd, 1) rfl
theorem dX9_kindOf_24 : decode cX9_kindOf 24 = .ok (.ireturn, 1) := dr9 dk9_dX9_kindOf_0_0 19 (24, .ireturn, 1) rfl
theorem dk9_dX9_empty_0_0 : dOk cX9_empty [(0, .aload_n 0, 1), (1, .iconst 0, 1), (2, .putfield 47, 3), (5, .return_, 1)] = true := by decide +kernel
theorem dX9_empty_0 : decode cX9_empty 0 = .ok (.aload_n 0, 1) := dr9 dk9_dX9_empty_0_0 0 (0, .aload_n 0, 1) rfl
theorem dX9_empty_1 : decode cX9_empty 1 = .ok (.iconst 0, 1) := dr9 dk9_dX9_empty_0_0 1 (1, .iconst 0, 1) rfl
theorem dX9_empty_2 : decode cX9_empty 2 = .ok (.putfield 47, 3) := dr9 dk9_dX9_empty_0_0 2 (2, .putfield 47, 3) rfl
theorem dX9_empty_5 : decode cX9_empty 5 = .ok (.return_, 1) := dr9 dk9_dX9_empty_0_0 3 (5, .return_, 1) rfl
theorem dk9_dX9_next_0_0 : dOk cX9_next [(0, .aload_n 0, 1), (1, .aload_n 0, 1), (2, .getfield 19, 3), (5, .aload_n 0, 1), (6, .getfield 59, 3), (9, .iaload, 1), (10, .putfield 65, 3), (13, .aload_n 0, 1), (14, .aload_n 0, 1), (15, .getfield 23, 3), (18, .aload_n 0, 1), (19, .getfield 59, 3), (22, .iaload, 1), (23, .putfield 68, 3), (26, .aload_n 0, 1), (27, .aload_n 0, 1), (28, .getfield 26, 3), (31, .aload_n 0, 1), (32, .getfield 59, 3), (35, .laload, 1), (36, .putfield 71, 3), (39, .aload_n 0, 1), (40, .getfield 59, 3), (43, .aload_n 0, 1)] = true ∧ dOk cX9_next [(44, .getfield 53, 3), (47, .if_icmp .ge 13, 3), (60, .return_, 1), (50, .aload_n 0, 1), (51, .dup, 1), (52, .getfield 59, 3), (55, .iconst 1, 1), (56, .iadd, 1), (57, .putfield 59, 3)] = true := by decide +kernel
theorem dX9_next_0 : decode cX9_next 0 = .ok (.aload_n 0, 1) := dr9 dk9_dX9_next_0_0.1 0 (0, .aload_n 0, 1) rfl
theorem dX9_next_1 : decode cX9_next 1 = .ok (.aload_n 0, 1) := dr9 dk9_dX9_next_0_0.1 1 (1, .aload_n 0, 1) rfl
theorem dX9_next_2 : decode cX9_next 2 = .ok (.getfield 19, 3) := dr9 dk9_dX9_next_0_0.1 2 (2, .getfield 19, 3) rfl
theorem dX9_next_5 : decode cX9_next 5 = .ok (.aload_n 0, 1) := dr9 dk9_dX9_next_0_0.1 3 (5, .aload_n 0, 1) rfl
theorem dX9_next_6 : decode cX9_next 6 = .ok (.getfield 59, 3) := dr9 dk9_dX9_next_0_0.1 4 (6, .getfield 59, 3) rfl
theorem dX9_next_9 : decode cX9_next 9 = .ok (.iaload, 1) := dr9 dk9_dX9_next_0_0.1 5 (9, .iaload, 1) rfl
theorem dX9_next_10 : decode cX9_next 10 = .ok (.putfield 65, 3) := dr9 dk9_dX9_next_0_0.1 6 (10, .putfield 65, 3) rfl
theorem dX9_next_13 : decode cX9_next 13 = .ok (.aload_n 0, 1) := dr9 dk9_dX9_next_0_0.1 7 (13, .aload_n 0, 1) rfl
theorem dX9_next_14 : decode cX9_next 14 = .ok (.aload_n 0, 1) := dr9 dk9_dX9_next_0_0.1 8 (14, .aload_n 0, 1) rfl
theorem dX9_next_15 : decode cX9_next 15 = .ok (.getfield 23, 3) := dr9 dk9_dX9_next_0_0.1 9 (15, .getfield 23, 3) rfl
theorem dX9_next_18 : decode cX9_next 18 = .ok (.aload_n 0, 1) := dr9 dk9_dX9_next_0_0.1 10 (18, .aload_n 0, 1) rfl
theorem dX9_next_19 : decode cX9_next 19 = .ok (.getfield 59, 3) := dr9 dk9_dX9_next_0_0.1 11 (19, .getfield 59, 3) rfl
theorem dX9_next_22 : decode cX9_next 22 = .ok (.iaload, 1) := dr9 dk9_dX9_next_0_0.1 12 (22, .iaload, 1) rfl
theorem dX9_next_23 : decode cX9_next 23 = .ok (.putfield 68, 3) := dr9 dk9_dX9_next_0_0.1 13 (23, .putfield 68, 3) rfl
theorem dX9_next_26 : decode cX9_next 26 = .ok (.aload_n 0, 1) := dr9 dk9_dX9_next_0_0.1 14 (26, .aload_n 0, 1) rfl
theorem dX9_next_27 : decode cX9_next 27 = .ok (.aload_n 0, 1) := dr9 dk9_dX9_next_0_0.1 15 (27, .aload_n 0, 1) rfl
theorem dX9_next_28 : decode cX9_next 28 = .ok (.getfield 26, 3) := dr9 dk9_dX9_next_0_0.1 16 (28, .getfield 26, 3) rfl
theorem dX9_next_31 : decode cX9_next 31 = .ok (.aload_n 0, 1) := dr9 dk9_dX9_next_0_0.1 17 (31, .aload_n 0, 1) rfl
theorem dX9_next_32 : decode cX9_next 32 = .ok (.getfield 59, 3) := dr9 dk9_dX9_next_0_0.1 18 (32, .getfield 59, 3) rfl
theorem dX9_next_35 : decode cX9_next 35 = .ok (.laload, 1) := dr9 dk9_dX9_next_0_0.1 19 (35, .laload, 1) rfl
theorem dX9_next_36 : decode cX9_next 36 = .ok (.putfield 71, 3) := dr9 dk9_dX9_next_0_0.1 20 (36, .putfield 71, 3) rfl
theorem dX9_next_39 : decode cX9_next 39 = .ok (.aload_n 0, 1) := dr9 dk9_dX9_next_0_0.1 21 (39, .aload_n 0, 1) rfl
theorem dX9_next_40 : decode cX9_next 40 = .ok (.getfield 59, 3) := dr9 dk9_dX9_next_0_0.1 22 (40, .getfield 59, 3) rfl
theorem dX9_next_43 : decode cX9_next 43 = .ok (.aload_n 0, 1) := dr9 dk9_dX9_next_0_0.1 23 (43, .aload_n 0, 1) rfl
theorem dX9_next_44 : decode cX9_next 44 = .ok (.getfield 53, 3) := dr9 dk9_dX9_next_0_0.2 0 (44, .getfield 53, 3) rfl
theorem dX9_next_47 : decode cX9_next 47 = .ok (.if_icmp .ge 13, 3) := dr9 dk9_dX9_next_0_0.2 1 (47, .if_icmp .ge 13, 3) rfl
theorem dX9_next_60 : decode cX9_next 60 = .ok (.return_, 1) := dr9 dk9_dX9_next_0_0.2 2 (60, .return_, 1) rfl
theorem dX9_next_50 : decode cX9_next 50 = .ok (.aload_n 0, 1) := dr9 dk9_dX9_next_0_0.2 3 (50, .aload_n 0, 1) rfl
theorem dX9_next_51 : decode cX9_next 51 = .ok (.dup, 1) := dr9 dk9_dX9_next_0_0.2 4 (51, .dup, 1) rfl
theorem dX9_next_52 : decode cX9_next 52 = .ok (.getfield 59, 3) := dr9 dk9_dX9_next_0_0.2 5 (52, .getfield 59, 3) rfl
theorem dX9_next_55 : decode cX9_next 55 = .ok (.iconst 1, 1) := dr9 dk9_dX9_next_0_0.2 6 (55, .iconst 1, 1) rfl
theorem dX9_next_56 : decode cX9_next 56 = .ok (.iadd, 1) := dr9 dk9_dX9_next_0_0.2 7 (56, .iadd, 1) rfl
theorem dX9_next_57 : decode cX9_next 57 = .ok (.putfield 59, 3) := dr9 dk9_dX9_next_0_0.2 8 (57, .putfield 59, 3) rfl
theorem dk9_dX9_append_0_0 : dOk cX9_append [(0, .bipush 56, 2), (2, .istore_n 3, 1), (3, .iload_n 3, 1), (4, .ifCond .lt 81, 3), (85, .return_, 1), (7, .lload_n 1, 1), (8, .iload_n 3, 1), (9, .lushr, 1), (10, .l2i, 1), (11, .sipush 255, 3), (14, .iand, 1), (15, .istore 4, 2), (17, .iload 4, 2), (19, .bipush 10, 2), (21, .if_icmp .eq 17, 3), (38, .iconst 1, 1), (39, .goto 4, 3), (43, .istore 5, 2), (45, .iload 5, 2), (47, .ifCond .eq 32, 3), (50, .aload_n 0, 1), (51, .getfield 47, 3), (54, .sipush 4000, 3), (57, .if_icmp .ge 22, 3)] = true ∧ dOk cX9_append [(79, .iinc 3 (-8), 3), (82, .goto (-79), 3), (60, .aload_n 0, 1), (61, .getfield 9, 3), (64, .aload_n 0, 1), (65, .dup, 1), (66, .getfield 47, 3), (69, .dup_x1, 1), (70, .iconst 1, 1), (71, .iadd, 1), (72, .putfield 47, 3), (75, .iload 4, 2), (77, .i2b, 1), (78, .bastore, 1), (24, .iload 4, 2), (26, .bipush 32, 2), (28, .if_icmp .lt 14, 3), (42, .iconst 0, 1), (31, .iload 4, 2), (33, .bipush 126, 2), (35, .if_icmp .gt 7, 3)] = true := by decide +kernel
theorem dX9_append_0 : decode cX9_append 0 = .ok (.bipush 56, 2) := dr9 dk9_dX9_append_0_0.1 0 (0, .bipush 56, 2) rfl
theorem dX9_append_2 : decode cX9_append 2 = .ok (.istore_n 3, 1) := dr9 dk9_dX9_append_0_0.1 1 (2, .istore_n 3, 1) rfl
theorem dX9_append_3 : decode cX9_append 3 = .ok (.iload_n 3, 1) := dr9 dk9_dX9_append_0_0.1 2 (3, .iload_n 3, 1) rfl
theorem dX9_append_4 : decode cX9_append 4 = .ok (.ifCond .lt 81, 3) := dr9 dk9_dX9_append_0_0.1 3 (4, .ifCond .lt 81, 3) rfl
theorem dX9_append_85 : decode cX9_append 85 = .ok (.return_, 1) := dr9 dk9_dX9_append_0_0.1 4 (85, .return_, 1) rfl
theorem dX9_append_7 : decode cX9_append 7 = .ok (.lload_n 1, 1) := dr9 dk9_dX9_append_0_0.1 5 (7, .lload_n 1, 1) rfl
theorem dX9_append_8 : decode cX9_append 8 = .ok (.iload_n 3, 1) := dr9 dk9_dX9_append_0_0.1 6 (8, .iload_n 3, 1) rfl
theorem dX9_append_9 : decode cX9_append 9 = .ok (.lushr, 1) := dr9 dk9_dX9_append_0_0.1 7 (9, .lushr, 1) rfl
theorem dX9_append_10 : decode cX9_append 10 = .ok (.l2i, 1) := dr9 dk9_dX9_append_0_0.1 8 (10, .l2i, 1) rfl
theorem dX9_append_11 : decode cX9_append 11 = .ok (.sipush 255, 3) := dr9 dk9_dX9_append_0_0.1 9 (11, .sipush 255, 3) rfl
theorem dX9_append_14 : decode cX9_append 14 = .ok (.iand, 1) := dr9 dk9_dX9_append_0_0.1 10 (14, .iand, 1) rfl
theorem dX9_append_15 : decode cX9_append 15 = .ok (.istore 4, 2) := dr9 dk9_dX9_append_0_0.1 11 (15, .istore 4, 2) rfl
theorem dX9_append_17 : decode cX9_append 17 = .ok (.iload 4, 2) := dr9 dk9_dX9_append_0_0.1 12 (17, .iload 4, 2) rfl
theorem dX9_append_19 : decode cX9_append 19 = .ok (.bipush 10, 2) := dr9 dk9_dX9_append_0_0.1 13 (19, .bipush 10, 2) rfl
theorem dX9_append_21 : decode cX9_append 21 = .ok (.if_icmp .eq 17, 3) := dr9 dk9_dX9_append_0_0.1 14 (21, .if_icmp .eq 17, 3) rfl
theorem dX9_append_38 : decode cX9_append 38 = .ok (.iconst 1, 1) := dr9 dk9_dX9_append_0_0.1 15 (38, .iconst 1, 1) rfl
theorem dX9_append_39 : decode cX9_append 39 = .ok (.goto 4, 3) := dr9 dk9_dX9_append_0_0.1 16 (39, .goto 4, 3) rfl
theorem dX9_append_43 : decode cX9_append 43 = .ok (.istore 5, 2) := dr9 dk9_dX9_append_0_0.1 17 (43, .istore 5, 2) rfl
theorem dX9_append_45 : decode cX9_append 45 = .ok (.iload 5, 2) := dr9 dk9_dX9_append_0_0.1 18 (45, .iload 5, 2) rfl
theorem dX9_append_47 : decode cX9_append 47 = .ok (.ifCond .eq 32, 3) := dr9 dk9_dX9_append_0_0.1 19 (47, .ifCond .eq 32, 3) rfl
theorem dX9_append_50 : decode cX9_append 50 = .ok (.aload_n 0, 1) := dr9 dk9_dX9_append_0_0.1 20 (50, .aload_n 0, 1) rfl
theorem dX9_append_51 : decode cX9_append 51 = .ok (.getfield 47, 3) := dr9 dk9_dX9_append_0_0.1 21 (51, .getfield 47, 3) rfl
theorem dX9_append_54 : decode cX9_append 54 = .ok (.sipush 4000, 3) := dr9 dk9_dX9_append_0_0.1 22 (54, .sipush 4000, 3) rfl
theorem dX9_append_57 : decode cX9_append 57 = .ok (.if_icmp .ge 22, 3) := dr9 dk9_dX9_append_0_0.1 23 (57, .if_icmp .ge 22, 3) rfl
theorem dX9_append_79 : decode cX9_append 79 = .ok (.iinc 3 (-8), 3) := dr9 dk9_dX9_append_0_0.2 0 (79, .iinc 3 (-8), 3) rfl
theorem dX9_append_82 : decode cX9_append 82 = .ok (.goto (-79), 3) := dr9 dk9_dX9_append_0_0.2 1 (82, .goto (-79), 3) rfl
theorem dX9_append_60 : decode cX9_append 60 = .ok (.aload_n 0, 1) := dr9 dk9_dX9_append_0_0.2 2 (60, .aload_n 0, 1) rfl
theorem dX9_append_61 : decode cX9_append 61 = .ok (.getfield 9, 3) := dr9 dk9_dX9_append_0_0.2 3 (61, .getfield 9, 3) rfl
theorem dX9_append_64 : decode cX9_append 64 = .ok (.aload_n 0, 1) := dr9 dk9_dX9_append_0_0.2 4 (64, .aload_n 0, 1) rfl
theorem dX9_append_65 : decode cX9_append 65 = .ok (.dup, 1) := dr9 dk9_dX9_append_0_0.2 5 (65, .dup, 1) rfl
theorem dX9_append_66 : decode cX9_append 66 = .ok (.getfield 47, 3) := dr9 dk9_dX9_append_0_0.2 6 (66, .getfield 47, 3) rfl
theorem dX9_append_69 : decode cX9_append 69 = .ok (.dup_x1, 1) := dr9 dk9_dX9_append_0_0.2 7 (69, .dup_x1, 1) rfl
theorem dX9_append_70 : decode cX9_append 70 = .ok (.iconst 1, 1) := dr9 dk9_dX9_append_0_0.2 8 (70, .iconst 1, 1) rfl
theorem dX9_append_71 : decode cX9_append 71 = .ok (.iadd, 1) := dr9 dk9_dX9_append_0_0.2 9 (71, .iadd, 1) rfl
theorem dX9_append_72 : decode cX9_append 72 = .ok (.putfield 47, 3) := dr9 dk9_dX9_append_0_0.2 10 (72, .putfield 47, 3) rfl
theorem dX9_append_75 : decode cX9_append 75 = .ok (.iload 4, 2) := dr9 dk9_dX9_append_0_0.2 11 (75, .iload 4, 2) rfl
theorem dX9_append_77 : decode cX9_append 77 = .ok (.i2b, 1) := dr9 dk9_dX9_append_0_0.2 12 (77, .i2b, 1) rfl
theorem dX9_append_78 : decode cX9_append 78 = .ok (.bastore, 1) := dr9 dk9_dX9_append_0_0.2 13 (78, .bastore, 1) rfl
theorem dX9_append_24 : decode cX9_append 24 = .ok (.iload 4, 2) := dr9 dk9_dX9_append_0_0.2 14 (24, .iload 4, 2) rfl
theorem dX9_append_26 : decode cX9_append 26 = .ok (.bipush 32, 2) := dr9 dk9_dX9_append_0_0.2 15 (26, .bipush 32, 2) rfl
theorem dX9_append_28 : decode cX9_append 28 = .ok (.if_icmp .lt 14, 3) := dr9 dk9_dX9_append_0_0.2 16 (28, .if_icmp .lt 14, 3) rfl
theorem dX9_append_42 : decode cX9_append 42 = .ok (.iconst 0, 1) := dr9 dk9_dX9_append_0_0.2 17 (42, .iconst 0, 1) rfl
theorem dX9_append_31 : decode cX9_append 31 = .ok (.iload 4, 2) := dr9 dk9_dX9_append_0_0.2 18 (31, .iload 4, 2) rfl
theorem dX9_append_33 : decode cX9_append 33 = .ok (.bipush 126, 2) := dr9 dk9_dX9_append_0_0.2 19 (33, .bipush 126, 2) rfl
theorem dX9_append_35 : decode cX9_append 35 = .ok (.if_icmp .gt 7, 3) := dr9 dk9_dX9_append_0_0.2 20 (35, .if_icmp .gt 7, 3) rfl
theorem dk9_dX9_cutNumber_0_0 : dOk cX9_cutNumber [(0, .iconst 0, 1), (1, .istore_n 1, 1), (2, .lconst 0, 1), (3, .lstore_n 2, 1), (4, .aload_n 0, 1), (5, .getfield 50, 3), (8, .aload_n 0, 1), (9, .getfield 47, 3), (12, .if_icmp .ge 65, 3), (77, .aload_n 0, 1), (78, .getfield 19, 3), (81, .aload_n 0, 1), (82, .getfield 53, 3), (85, .iload_n 1, 1), (86, .bipush 9, 2), (88, .if_icmp .le 7, 3), (95, .iconst 2, 1), (96, .iastore, 1), (97, .aload_n 0, 1), (98, .getfield 26, 3), (101, .aload_n 0, 1), (102, .getfield 53, 3), (105, .lload_n 2, 1), (106, .lastore, 1)] = true ∧ dOk cX9_cutNumber [(107, .return_, 1), (91, .iconst 1, 1), (92, .goto 4, 3), (15, .aload_n 0, 1), (16, .getfield 9, 3), (19, .aload_n 0, 1), (20, .getfield 50, 3), (23, .baload, 1), (24, .invokestatic 75, 3), (27, .ifCond .eq 50, 3), (30, .iload_n 1, 1), (31, .bipush 9, 2), (33, .if_icmp .ge 26, 3), (59, .lconst 0, 1), (60, .lstore_n 2, 1), (61, .iinc 1 1, 3), (64, .aload_n 0, 1), (65, .dup, 1), (66, .getfield 50, 3), (69, .iconst 1, 1), (70, .iadd, 1), (71, .putfield 50, 3), (74, .goto (-70), 3), (36, .lload_n 2, 1)] = true ∧ dOk cX9_cutNumber [(37, .ldc2_w 93, 3), (40, .lmul, 1), (41, .aload_n 0, 1), (42, .getfield 9, 3), (45, .aload_n 0, 1), (46, .getfield 50, 3), (49, .baload, 1), (50, .i2l, 1), (51, .ladd, 1), (52, .ldc2_w 95, 3), (55, .lsub, 1), (56, .goto 4, 3)] = true := by decide +kernel
theorem dX9_cutNumber_0 : decode cX9_cutNumber 0 = .ok (.iconst 0, 1) := dr9 dk9_dX9_cutNumber_0_0.1 0 (0, .iconst 0, 1) rfl
theorem dX9_cutNumber_1 : decode cX9_cutNumber 1 = .ok (.istore_n 1, 1) := dr9 dk9_dX9_cutNumber_0_0.1 1 (1, .istore_n 1, 1) rfl
theorem dX9_cutNumber_2 : decode cX9_cutNumber 2 = .ok (.lconst 0, 1) := dr9 dk9_dX9_cutNumber_0_0.1 2 (2, .lconst 0, 1) rfl
theorem dX9_cutNumber_3 : decode cX9_cutNumber 3 = .ok (.lstore_n 2, 1) := dr9 dk9_dX9_cutNumber_0_0.1 3 (3, .lstore_n 2, 1) rfl
theorem dX9_cutNumber_4 : decode cX9_cutNumber 4 = .ok (.aload_n 0, 1) := dr9 dk9_dX9_cutNumber_0_0.1 4 (4, .aload_n 0, 1) rfl
theorem dX9_cutNumber_5 : decode cX9_cutNumber 5 = .ok (.getfield 50, 3) := dr9 dk9_dX9_cutNumber_0_0.1 5 (5, .getfield 50, 3) rfl
theorem dX9_cutNumber_8 : decode cX9_cutNumber 8 = .ok (.aload_n 0, 1) := dr9 dk9_dX9_cutNumber_0_0.1 6 (8, .aload_n 0, 1) rfl
theorem dX9_cutNumber_9 : decode cX9_cutNumber 9 = .ok (.getfield 47, 3) := dr9 dk9_dX9_cutNumber_0_0.1 7 (9, .getfield 47, 3) rfl
theorem dX9_cutNumber_12 : decode cX9_cutNumber 12 = .ok (.if_icmp .ge 65, 3) := dr9 dk9_dX9_cutNumber_0_0.1 8 (12, .if_icmp .ge 65, 3) rfl
theorem dX9_cutNumber_77 : decode cX9_cutNumber 77 = .ok (.aload_n 0, 1) := dr9 dk9_dX9_cutNumber_0_0.1 9 (77, .aload_n 0, 1) rfl
theorem dX9_cutNumber_78 : decode cX9_cutNumber 78 = .ok (.getfield 19, 3) := dr9 dk9_dX9_cutNumber_0_0.1 10 (78, .getfield 19, 3) rfl
theorem dX9_cutNumber_81 : decode cX9_cutNumber 81 = .ok (.aload_n 0, 1) := dr9 dk9_dX9_cutNumber_0_0.1 11 (81, .aload_n 0, 1) rfl
theorem dX9_cutNumber_82 : decode cX9_cutNumber 82 = .ok (.getfield 53, 3) := dr9 dk9_dX9_cutNumber_0_0.1 12 (82, .getfield 53, 3) rfl
theorem dX9_cutNumber_85 : decode cX9_cutNumber 85 = .ok (.iload_n 1, 1) := dr9 dk9_dX9_cutNumber_0_0.1 13 (85, .iload_n 1, 1) rfl
theorem dX9_cutNumber_86 : decode cX9_cutNumber 86 = .ok (.bipush 9, 2) := dr9 dk9_dX9_cutNumber_0_0.1 14 (86, .bipush 9, 2) rfl
theorem dX9_cutNumber_88 : decode cX9_cutNumber 88 = .ok (.if_icmp .le 7, 3) := dr9 dk9_dX9_cutNumber_0_0.1 15 (88, .if_icmp .le 7, 3) rfl
theorem dX9_cutNumber_95 : decode cX9_cutNumber 95 = .ok (.iconst 2, 1) := dr9 dk9_dX9_cutNumber_0_0.1 16 (95, .iconst 2, 1) rfl
theorem dX9_cutNumber_96 : decode cX9_cutNumber 96 = .ok (.iastore, 1) := dr9 dk9_dX9_cutNumber_0_0.1 17 (96, .iastore, 1) rfl
theorem dX9_cutNumber_97 : decode cX9_cutNumber 97 = .ok (.aload_n 0, 1) := dr9 dk9_dX9_cutNumber_0_0.1 18 (97, .aload_n 0, 1) rfl
theorem dX9_cutNumber_98 : decode cX9_cutNumber 98 = .ok (.getfield 26, 3) := dr9 dk9_dX9_cutNumber_0_0.1 19 (98, .getfield 26, 3) rfl
theorem dX9_cutNumber_101 : decode cX9_cutNumber 101 = .ok (.aload_n 0, 1) := dr9 dk9_dX9_cutNumber_0_0.1 20 (101, .aload_n 0, 1) rfl
theorem dX9_cutNumber_102 : decode cX9_cutNumber 102 = .ok (.getfield 53, 3) := dr9 dk9_dX9_cutNumber_0_0.1 21 (102, .getfield 53, 3) rfl
theorem dX9_cutNumber_105 : decode cX9_cutNumber 105 = .ok (.lload_n 2, 1) := dr9 dk9_dX9_cutNumber_0_0.1 22 (105, .lload_n 2, 1) rfl
theorem dX9_cutNumber_106 : decode cX9_cutNumber 106 = .ok (.lastore, 1) := dr9 dk9_dX9_cutNumber_0_0.1 23 (106, .lastore, 1) rfl
theorem dX9_cutNumber_107 : decode cX9_cutNumber 107 = .ok (.return_, 1) := dr9 dk9_dX9_cutNumber_0_0.2.1 0 (107, .return_, 1) rfl
theorem dX9_cutNumber_91 : decode cX9_cutNumber 91 = .ok (.iconst 1, 1) := dr9 dk9_dX9_cutNumber_0_0.2.1 1 (91, .iconst 1, 1) rfl
theorem dX9_cutNumber_92 : decode cX9_cutNumber 92 = .ok (.goto 4, 3) := dr9 dk9_dX9_cutNumber_0_0.2.1 2 (92, .goto 4, 3) rfl
theorem dX9_cutNumber_15 : decode cX9_cutNumber 15 = .ok (.aload_n 0, 1) := dr9 dk9_dX9_cutNumber_0_0.2.1 3 (15, .aload_n 0, 1) rfl
theorem dX9_cutNumber_16 : decode cX9_cutNumber 16 = .ok (.getfield 9, 3) := dr9 dk9_dX9_cutNumber_0_0.2.1 4 (16, .getfield 9, 3) rfl
theorem dX9_cutNumber_19 : decode cX9_cutNumber 19 = .ok (.aload_n 0, 1) := dr9 dk9_dX9_cutNumber_0_0.2.1 5 (19, .aload_n 0, 1) rfl
theorem dX9_cutNumber_20 : decode cX9_cutNumber 20 = .ok (.getfield 50, 3) := dr9 dk9_dX9_cutNumber_0_0.2.1 6 (20, .getfield 50, 3) rfl
theorem dX9_cutNumber_23 : decode cX9_cutNumber 23 = .ok (.baload, 1) := dr9 dk9_dX9_cutNumber_0_0.2.1 7 (23, .baload, 1) rfl
theorem dX9_cutNumber_24 : decode cX9_cutNumber 24 = .ok (.invokestatic 75, 3) := dr9 dk9_dX9_cutNumber_0_0.2.1 8 (24, .invokestatic 75, 3) rfl
theorem dX9_cutNumber_27 : decode cX9_cutNumber 27 = .ok (.ifCond .eq 50, 3) := dr9 dk9_dX9_cutNumber_0_0.2.1 9 (27, .ifCond .eq 50, 3) rfl
theorem dX9_cutNumber_30 : decode cX9_cutNumber 30 = .ok (.iload_n 1, 1) := dr9 dk9_dX9_cutNumber_0_0.2.1 10 (30, .iload_n 1, 1) rfl
theorem dX9_cutNumber_31 : decode cX9_cutNumber 31 = .ok (.bipush 9, 2) := dr9 dk9_dX9_cutNumber_0_0.2.1 11 (31, .bipush 9, 2) rfl
theorem dX9_cutNumber_33 : decode cX9_cutNumber 33 = .ok (.if_icmp .ge 26, 3) := dr9 dk9_dX9_cutNumber_0_0.2.1 12 (33, .if_icmp .ge 26, 3) rfl
theorem dX9_cutNumber_59 : decode cX9_cutNumber 59 = .ok (.lconst 0, 1) := dr9 dk9_dX9_cutNumber_0_0.2.1 13 (59, .lconst 0, 1) rfl
theorem dX9_cutNumber_60 : decode cX9_cutNumber 60 = .ok (.lstore_n 2, 1) := dr9 dk9_dX9_cutNumber_0_0.2.1 14 (60, .lstore_n 2, 1) rfl
theorem dX9_cutNumber_61 : decode cX9_cutNumber 61 = .ok (.iinc 1 1, 3) := dr9 dk9_dX9_cutNumber_0_0.2.1 15 (61, .iinc 1 1, 3) rfl
theorem dX9_cutNumber_64 : decode cX9_cutNumber 64 = .ok (.aload_n 0, 1) := dr9 dk9_dX9_cutNumber_0_0.2.1 16 (64, .aload_n 0, 1) rfl
theorem dX9_cutNumber_65 : decode cX9_cutNumber 65 = .ok (.dup, 1) := dr9 dk9_dX9_cutNumber_0_0.2.1 17 (65, .dup, 1) rfl
theorem dX9_cutNumber_66 : decode cX9_cutNumber 66 = .ok (.getfield 50, 3) := dr9 dk9_dX9_cutNumber_0_0.2.1 18 (66, .getfield 50, 3) rfl
theorem dX9_cutNumber_69 : decode cX9_cutNumber 69 = .ok (.iconst 1, 1) := dr9 dk9_dX9_cutNumber_0_0.2.1 19 (69, .iconst 1, 1) rfl
theorem dX9_cutNumber_70 : decode cX9_cutNumber 70 = .ok (.iadd, 1) := dr9 dk9_dX9_cutNumber_0_0.2.1 20 (70, .iadd, 1) rfl
theorem dX9_cutNumber_71 : decode cX9_cutNumber 71 = .ok (.putfield 50, 3) := dr9 dk9_dX9_cutNumber_0_0.2.1 21 (71, .putfield 50, 3) rfl
theorem dX9_cutNumber_74 : decode cX9_cutNumber 74 = .ok (.goto (-70), 3) := dr9 dk9_dX9_cutNumber_0_0.2.1 22 (74, .goto (-70), 3) rfl
theorem dX9_cutNumber_36 : decode cX9_cutNumber 36 = .ok (.lload_n 2, 1) := dr9 dk9_dX9_cutNumber_0_0.2.1 23 (36, .lload_n 2, 1) rfl
theorem dX9_cutNumber_37 : decode cX9_cutNumber 37 = .ok (.ldc2_w 93, 3) := dr9 dk9_dX9_cutNumber_0_0.2.2 0 (37, .ldc2_w 93, 3) rfl
theorem dX9_cutNumber_40 : decode cX9_cutNumber 40 = .ok (.lmul, 1) := dr9 dk9_dX9_cutNumber_0_0.2.2 1 (40, .lmul, 1) rfl
theorem dX9_cutNumber_41 : decode cX9_cutNumber 41 = .ok (.aload_n 0, 1) := dr9 dk9_dX9_cutNumber_0_0.2.2 2 (41, .aload_n 0, 1) rfl
theorem dX9_cutNumber_42 : decode cX9_cutNumber 42 = .ok (.getfield 9, 3) := dr9 dk9_dX9_cutNumber_0_0.2.2 3 (42, .getfield 9, 3) rfl
theorem dX9_cutNumber_45 : decode cX9_cutNumber 45 = .ok (.aload_n 0, 1) := dr9 dk9_dX9_cutNumber_0_0.2.2 4 (45, .aload_n 0, 1) rfl
theorem dX9_cutNumber_46 : decode cX9_cutNumber 46 = .ok (.getfield 50, 3) := dr9 dk9_dX9_cutNumber_0_0.2.2 5 (46, .getfield 50, 3) rfl
theorem dX9_cutNumber_49 : decode cX9_cutNumber 49 = .ok (.baload, 1) := dr9 dk9_dX9_cutNumber_0_0.2.2 6 (49, .baload, 1) rfl
theorem dX9_cutNumber_50 : decode cX9_cutNumber 50 = .ok (.i2l, 1) := dr9 dk9_dX9_cutNumber_0_0.2.2 7 (50, .i2l, 1) rfl
theorem dX9_cutNumber_51 : decode cX9_cutNumber 51 = .ok (.ladd, 1) := dr9 dk9_dX9_cutNumber_0_0.2.2 8 (51, .ladd, 1) rfl
theorem dX9_cutNumber_52 : decode cX9_cutNumber 52 = .ok (.ldc2_w 95, 3) := dr9 dk9_dX9_cutNumber_0_0.2.2 9 (52, .ldc2_w 95, 3) rfl
theorem dX9_cutNumber_55 : decode cX9_cutNumber 55 = .ok (.lsub, 1) := dr9 dk9_dX9_cutNumber_0_0.2.2 10 (55, .lsub, 1) rfl
theorem dX9_cutNumber_56 : decode cX9_cutNumber 56 = .ok (.goto 4, 3) := dr9 dk9_dX9_cutNumber_0_0.2.2 11 (56, .goto 4, 3) rfl
theorem dk9_dX6_find_0_0 : dOk cX6_find [(0, .iconst 0, 1), (1, .istore_n 3, 1), (2, .iload_n 3, 1), (3, .aload_n 0, 1), (4, .getfield 15, 3), (7, .if_icmp .ge 22, 3), (29, .iconst (-1), 1), (30, .ireturn, 1), (10, .aload_n 0, 1), (11, .getfield 9, 3), (14, .iload_n 3, 1), (15, .laload, 1), (16, .lload_n 1, 1), (17, .lcmp, 1), (18, .ifCond .ne 5, 3), (23, .iinc 3 1, 3), (26, .goto (-24), 3), (21, .iload_n 3, 1), (22, .ireturn, 1)] = true := by decide +kernel
theorem dX6_find_0 : decode cX6_find 0 = .ok (.iconst 0, 1) := dr9 dk9_dX6_find_0_0 0 (0, .iconst 0, 1) rfl
theorem dX6_find_1 : decode cX6_find 1 = .ok (.istore_n 3, 1) := dr9 dk9_dX6_find_0_0 1 (1, .istore_n 3, 1) rfl
theorem dX6_find_2 : decode cX6_find 2 = .ok (.iload_n 3, 1) := dr9 dk9_dX6_find_0_0 2 (2, .iload_n 3, 1) rfl
theorem dX6_find_3 : decode cX6_find 3 = .ok (.aload_n 0, 1) := dr9 dk9_dX6_find_0_0 3 (3, .aload_n 0, 1) rfl
theorem dX6_find_4 : decode cX6_find 4 = .ok (.getfield 15, 3) := dr9 dk9_dX6_find_0_0 4 (4, .getfield 15, 3) rfl
theorem dX6_find_7 : decode cX6_find 7 = .ok (.if_icmp .ge 22, 3) := dr9 dk9_dX6_find_0_0 5 (7, .if_icmp .ge 22, 3) rfl
theorem dX6_find_29 : decode cX6_find 29 = .ok (.iconst (-1), 1) := dr9 dk9_dX6_find_0_0 6 (29, .iconst (-1), 1) rfl
theorem dX6_find_30 : decode cX6_find 30 = .ok (.ireturn, 1) := dr9 dk9_dX6_find_0_0 7 (30, .ireturn, 1) rfl
theorem dX6_find_10 : decode cX6_find 10 = .ok (.aload_n 0, 1) := dr9 dk9_dX6_find_0_0 8 (10, .aload_n 0, 1) rfl
theorem dX6_find_11 : decode cX6_find 11 = .ok (.getfield 9, 3) := dr9 dk9_dX6_find_0_0 9 (11, .getfield 9, 3) rfl
theorem dX6_find_14 : decode cX6_find 14 = .ok (.iload_n 3, 1) := dr9 dk9_dX6_find_0_0 10 (14, .iload_n 3, 1) rfl
theorem dX6_find_15 : decode cX6_find 15 = .ok (.laload, 1) := dr9 dk9_dX6_find_0_0 11 (15, .laload, 1) rfl
theorem dX6_find_16 : decode cX6_find 16 = .ok (.lload_n 1, 1) := dr9 dk9_dX6_find_0_0 12 (16, .lload_n 1, 1) rfl
theorem dX6_find_17 : decode cX6_find 17 = .ok (.lcmp, 1) := dr9 dk9_dX6_find_0_0 13 (17, .lcmp, 1) rfl
theorem dX6_find_18 : decode cX6_find 18 = .ok (.ifCond .ne 5, 3) := dr9 dk9_dX6_find_0_0 14 (18, .ifCond .ne 5, 3) rfl
theorem dX6_find_23 : decode cX6_find 23 = .ok (.iinc 3 1, 3) := dr9 dk9_dX6_find_0_0 15 (23, .iinc 3 1, 3) rfl
theorem dX6_find_26 : decode cX6_find 26 = .ok (.goto (-24), 3) := dr9 dk9_dX6_find_0_0 16 (26, .goto (-24), 3) rfl
theorem dX6_find_21 : decode cX6_find 21 = .ok (.iload_n 3, 1) := dr9 dk9_dX6_find_0_0 17 (21, .iload_n 3, 1) rfl
theorem dX6_find_22 : decode cX6_find 22 = .ok (.ireturn, 1) := dr9 dk9_dX6_find_0_0 18 (22, .ireturn, 1) rfl
theorem dk9_dX6_isFull_0_0 : dOk cX6_isFull [(0, .aload_n 0, 1), (1, .getfield 15, 3), (4, .aload_n 0, 1), (5, .getfield 9, 3), (8, .arraylength, 1), (9, .if_icmp .lt 7, 3), (16, .iconst 0, 1), (17, .ireturn, 1), (12, .iconst 1, 1), (13, .goto 4, 3)] = true := by decide +kernel
theorem dX6_isFull_0 : decode cX6_isFull 0 = .ok (.aload_n 0, 1) := dr9 dk9_dX6_isFull_0_0 0 (0, .aload_n 0, 1) rfl
theorem dX6_isFull_1 : decode cX6_isFull 1 = .ok (.getfield 15, 3) := dr9 dk9_dX6_isFull_0_0 1 (1, .getfield 15, 3) rfl
theorem dX6_isFull_4 : decode cX6_isFull 4 = .ok (.aload_n 0, 1) := dr9 dk9_dX6_isFull_0_0 2 (4, .aload_n 0, 1) rfl
theorem dX6_isFull_5 : decode cX6_isFull 5 = .ok (.getfield 9, 3) := dr9 dk9_dX6_isFull_0_0 3 (5, .getfield 9, 3) rfl
theorem dX6_isFull_8 : decode cX6_isFull 8 = .ok (.arraylength, 1) := dr9 dk9_dX6_isFull_0_0 4 (8, .arraylength, 1) rfl
theorem dX6_isFull_9 : decode cX6_isFull 9 = .ok (.if_icmp .lt 7, 3) := dr9 dk9_dX6_isFull_0_0 5 (9, .if_icmp .lt 7, 3) rfl
theorem dX6_isFull_16 : decode cX6_isFull 16 = .ok (.iconst 0, 1) := dr9 dk9_dX6_isFull_0_0 6 (16, .iconst 0, 1) rfl
theorem dX6_isFull_17 : decode cX6_isFull 17 = .ok (.ireturn, 1) := dr9 dk9_dX6_isFull_0_0 7 (17, .ireturn, 1) rfl
theorem dX6_isFull_12 : decode cX6_isFull 12 = .ok (.iconst 1, 1) := dr9 dk9_dX6_isFull_0_0 8 (12, .iconst 1, 1) rfl
theorem dX6_isFull_13 : decode cX6_isFull 13 = .ok (.goto 4, 3) := dr9 dk9_dX6_isFull_0_0 9 (13, .goto 4, 3) rfl
theorem dk9_dX6_add_0_0 : dOk cX6_add [(0, .aload_n 0, 1), (1, .getfield 15, 3), (4, .aload_n 0, 1), (5, .getfield 9, 3), (8, .arraylength, 1), (9, .if_icmp .lt 5, 3), (14, .aload_n 0, 1), (15, .getfield 9, 3), (18, .aload_n 0, 1), (19, .getfield 15, 3), (22, .lload_n 1, 1), (23, .lastore, 1), (24, .aload_n 0, 1), (25, .dup, 1), (26, .getfield 15, 3), (29, .dup_x1, 1), (30, .iconst 1, 1), (31, .iadd, 1), (32, .putfield 15, 3), (35, .ireturn, 1), (12, .iconst (-1), 1), (13, .ireturn, 1)] = true := by decide +kernel
theorem dX6_add_0 : decode cX6_add 0 = .ok (.aload_n 0, 1) := dr9 dk9_dX6_add_0_0 0 (0, .aload_n 0, 1) rfl
theorem dX6_add_1 : decode cX6_add 1 = .ok (.getfield 15, 3) := dr9 dk9_dX6_add_0_0 1 (1, .getfield 15, 3) rfl
theorem dX6_add_4 : decode cX6_add 4 = .ok (.aload_n 0, 1) := dr9 dk9_dX6_add_0_0 2 (4, .aload_n 0, 1) rfl
theorem dX6_add_5 : decode cX6_add 5 = .ok (.getfield 9, 3) := dr9 dk9_dX6_add_0_0 3 (5, .getfield 9, 3) rfl
theorem dX6_add_8 : decode cX6_add 8 = .ok (.arraylength, 1) := dr9 dk9_dX6_add_0_0 4 (8, .arraylength, 1) rfl
theorem dX6_add_9 : decode cX6_add 9 = .ok (.if_icmp .lt 5, 3) := dr9 dk9_dX6_add_0_0 5 (9, .if_icmp .lt 5, 3) rfl
theorem dX6_add_14 : decode cX6_add 14 = .ok (.aload_n 0, 1) := dr9 dk9_dX6_add_0_0 6 (14, .aload_n 0, 1) rfl
theorem dX6_add_15 : decode cX6_add 15 = .ok (.getfield 9, 3) := dr9 dk9_dX6_add_0_0 7 (15, .getfield 9, 3) rfl
theorem dX6_add_18 : decode cX6_add 18 = .ok (.aload_n 0, 1) := dr9 dk9_dX6_add_0_0 8 (18, .aload_n 0, 1) rfl
theorem dX6_add_19 : decode cX6_add 19 = .ok (.getfield 15, 3) := dr9 dk9_dX6_add_0_0 9 (19, .getfield 15, 3) rfl
theorem dX6_add_22 : decode cX6_add 22 = .ok (.lload_n 1, 1) := dr9 dk9_dX6_add_0_0 10 (22, .lload_n 1, 1) rfl
theorem dX6_add_23 : decode cX6_add 23 = .ok (.lastore, 1) := dr9 dk9_dX6_add_0_0 11 (23, .lastore, 1) rfl
theorem dX6_add_24 : decode cX6_add 24 = .ok (.aload_n 0, 1) := dr9 dk9_dX6_add_0_0 12 (24, .aload_n 0, 1) rfl
theorem dX6_add_25 : decode cX6_add 25 = .ok (.dup, 1) := dr9 dk9_dX6_add_0_0 13 (25, .dup, 1) rfl
theorem dX6_add_26 : decode cX6_add 26 = .ok (.getfield 15, 3) := dr9 dk9_dX6_add_0_0 14 (26, .getfield 15, 3) rfl
theorem dX6_add_29 : decode cX6_add 29 = .ok (.dup_x1, 1) := dr9 dk9_dX6_add_0_0 15 (29, .dup_x1, 1) rfl
theorem dX6_add_30 : decode cX6_add 30 = .ok (.iconst 1, 1) := dr9 dk9_dX6_add_0_0 16 (30, .iconst 1, 1) rfl
theorem dX6_add_31 : decode cX6_add 31 = .ok (.iadd, 1) := dr9 dk9_dX6_add_0_0 17 (31, .iadd, 1) rfl
theorem dX6_add_32 : decode cX6_add 32 = .ok (.putfield 15, 3) := dr9 dk9_dX6_add_0_0 18 (32, .putfield 15, 3) rfl
theorem dX6_add_35 : decode cX6_add 35 = .ok (.ireturn, 1) := dr9 dk9_dX6_add_0_0 19 (35, .ireturn, 1) rfl
theorem dX6_add_12 : decode cX6_add 12 = .ok (.iconst (-1), 1) := dr9 dk9_dX6_add_0_0 20 (12, .iconst (-1), 1) rfl
theorem dX6_add_13 : decode cX6_add 13 = .ok (.ireturn, 1) := dr9 dk9_dX6_add_0_0 21 (13, .ireturn, 1) rfl
theorem dk9_dX7_clear_0_0 : dOk cX7_clear [(0, .aload_n 0, 1), (1, .iconst 0, 1), (2, .putfield 27, 3), (5, .aload_n 0, 1), (6, .iconst 0, 1), (7, .putfield 31, 3), (10, .aload_n 0, 1), (11, .iconst 0, 1), (12, .putfield 34, 3), (15, .aload_n 0, 1), (16, .iconst 0, 1), (17, .putfield 37, 3), (20, .return_, 1)] = true := by decide +kernel
theorem dX7_clear_0 : decode cX7_clear 0 = .ok (.aload_n 0, 1) := dr9 dk9_dX7_clear_0_0 0 (0, .aload_n 0, 1) rfl
theorem dX7_clear_1 : decode cX7_clear 1 = .ok (.iconst 0, 1) := dr9 dk9_dX7_clear_0_0 1 (1, .iconst 0, 1) rfl
theorem dX7_clear_2 : decode cX7_clear 2 = .ok (.putfield 27, 3) := dr9 dk9_dX7_clear_0_0 2 (2, .putfield 27, 3) rfl
theorem dX7_clear_5 : decode cX7_clear 5 = .ok (.aload_n 0, 1) := dr9 dk9_dX7_clear_0_0 3 (5, .aload_n 0, 1) rfl
theorem dX7_clear_6 : decode cX7_clear 6 = .ok (.iconst 0, 1) := dr9 dk9_dX7_clear_0_0 4 (6, .iconst 0, 1) rfl
theorem dX7_clear_7 : decode cX7_clear 7 = .ok (.putfield 31, 3) := dr9 dk9_dX7_clear_0_0 5 (7, .putfield 31, 3) rfl
theorem dX7_clear_10 : decode cX7_clear 10 = .ok (.aload_n 0, 1) := dr9 dk9_dX7_clear_0_0 6 (10, .aload_n 0, 1) rfl
theorem dX7_clear_11 : decode cX7_clear 11 = .ok (.iconst 0, 1) := dr9 dk9_dX7_clear_0_0 7 (11, .iconst 0, 1) rfl
theorem dX7_clear_12 : decode cX7_clear 12 = .ok (.putfield 34, 3) := dr9 dk9_dX7_clear_0_0 8 (12, .putfield 34, 3) rfl
theorem dX7_clear_15 : decode cX7_clear 15 = .ok (.aload_n 0, 1) := dr9 dk9_dX7_clear_0_0 9 (15, .aload_n 0, 1) rfl
theorem dX7_clear_16 : decode cX7_clear 16 = .ok (.iconst 0, 1) := dr9 dk9_dX7_clear_0_0 10 (16, .iconst 0, 1) rfl
theorem dX7_clear_17 : decode cX7_clear 17 = .ok (.putfield 37, 3) := dr9 dk9_dX7_clear_0_0 11 (17, .putfield 37, 3) rfl
theorem dX7_clear_20 : decode cX7_clear 20 = .ok (.return_, 1) := dr9 dk9_dX7_clear_0_0 12 (20, .return_, 1) rfl
theorem dk9_dX7_forgetThings_0_0 : dOk cX7_forgetThings [(0, .aload_n 0, 1), (1, .iconst 0, 1), (2, .putfield 27, 3), (5, .return_, 1)] = true := by decide +kernel
theorem dX7_forgetThings_0 : decode cX7_forgetThings 0 = .ok (.aload_n 0, 1) := dr9 dk9_dX7_forgetThings_0_0 0 (0, .aload_n 0, 1) rfl
theorem dX7_forgetThings_1 : decode cX7_forgetThings 1 = .ok (.iconst 0, 1) := dr9 dk9_dX7_forgetThings_0_0 1 (1, .iconst 0, 1) rfl
theorem dX7_forgetThings_2 : decode cX7_forgetThings 2 = .ok (.putfield 27, 3) := dr9 dk9_dX7_forgetThings_0_0 2 (2, .putfield 27, 3) rfl
theorem dX7_forgetThings_5 : decode cX7_forgetThings 5 = .ok (.return_, 1) := dr9 dk9_dX7_forgetThings_0_0 3 (5, .return_, 1) rfl
theorem dk9_dX7_noteThing_0_0 : dOk cX7_noteThing [(0, .aload_n 0, 1), (1, .getfield 40, 3), (4, .ifCond .eq 52, 3), (56, .return_, 1), (7, .aload_n 0, 1), (8, .getfield 27, 3), (11, .bipush 100, 2), (13, .if_icmp .ge 43, 3), (16, .aload_n 0, 1), (17, .getfield 9, 3), (20, .aload_n 0, 1), (21, .getfield 27, 3), (24, .iload_n 1, 1), (25, .iastore, 1), (26, .aload_n 0, 1), (27, .getfield 15, 3), (30, .aload_n 0, 1), (31, .getfield 27, 3), (34, .iload_n 2, 1), (35, .iastore, 1), (36, .aload_n 0, 1), (37, .getfield 18, 3), (40, .aload_n 0, 1), (41, .getfield 27, 3)] = true ∧ dOk cX7_noteThing [(44, .iload_n 3, 1), (45, .iastore, 1), (46, .aload_n 0, 1), (47, .dup, 1), (48, .getfield 27, 3), (51, .iconst 1, 1), (52, .iadd, 1), (53, .putfield 27, 3)] = true := by decide +kernel
theorem dX7_noteThing_0 : decode cX7_noteThing 0 = .ok (.aload_n 0, 1) := dr9 dk9_dX7_noteThing_0_0.1 0 (0, .aload_n 0, 1) rfl
theorem dX7_noteThing_1 : decode cX7_noteThing 1 = .ok (.getfield 40, 3) := dr9 dk9_dX7_noteThing_0_0.1 1 (1, .getfield 40, 3) rfl
theorem dX7_noteThing_4 : decode cX7_noteThing 4 = .ok (.ifCond .eq 52, 3) := dr9 dk9_dX7_noteThing_0_0.1 2 (4, .ifCond .eq 52, 3) rfl
theorem dX7_noteThing_56 : decode cX7_noteThing 56 = .ok (.return_, 1) := dr9 dk9_dX7_noteThing_0_0.1 3 (56, .return_, 1) rfl
theorem dX7_noteThing_7 : decode cX7_noteThing 7 = .ok (.aload_n 0, 1) := dr9 dk9_dX7_noteThing_0_0.1 4 (7, .aload_n 0, 1) rfl
theorem dX7_noteThing_8 : decode cX7_noteThing 8 = .ok (.getfield 27, 3) := dr9 dk9_dX7_noteThing_0_0.1 5 (8, .getfield 27, 3) rfl
theorem dX7_noteThing_11 : decode cX7_noteThing 11 = .ok (.bipush 100, 2) := dr9 dk9_dX7_noteThing_0_0.1 6 (11, .bipush 100, 2) rfl
theorem dX7_noteThing_13 : decode cX7_noteThing 13 = .ok (.if_icmp .ge 43, 3) := dr9 dk9_dX7_noteThing_0_0.1 7 (13, .if_icmp .ge 43, 3) rfl
theorem dX7_noteThing_16 : decode cX7_noteThing 16 = .ok (.aload_n 0, 1) := dr9 dk9_dX7_noteThing_0_0.1 8 (16, .aload_n 0, 1) rfl
theorem dX7_noteThing_17 : decode cX7_noteThing 17 = .ok (.getfield 9, 3) := dr9 dk9_dX7_noteThing_0_0.1 9 (17, .getfield 9, 3) rfl
theorem dX7_noteThing_20 : decode cX7_noteThing 20 = .ok (.aload_n 0, 1) := dr9 dk9_dX7_noteThing_0_0.1 10 (20, .aload_n 0, 1) rfl
theorem dX7_noteThing_21 : decode cX7_noteThing 21 = .ok (.getfield 27, 3) := dr9 dk9_dX7_noteThing_0_0.1 11 (21, .getfield 27, 3) rfl
theorem dX7_noteThing_24 : decode cX7_noteThing 24 = .ok (.iload_n 1, 1) := dr9 dk9_dX7_noteThing_0_0.1 12 (24, .iload_n 1, 1) rfl
theorem dX7_noteThing_25 : decode cX7_noteThing 25 = .ok (.iastore, 1) := dr9 dk9_dX7_noteThing_0_0.1 13 (25, .iastore, 1) rfl
theorem dX7_noteThing_26 : decode cX7_noteThing 26 = .ok (.aload_n 0, 1) := dr9 dk9_dX7_noteThing_0_0.1 14 (26, .aload_n 0, 1) rfl
theorem dX7_noteThing_27 : decode cX7_noteThing 27 = .ok (.getfield 15, 3) := dr9 dk9_dX7_noteThing_0_0.1 15 (27, .getfield 15, 3) rfl
theorem dX7_noteThing_30 : decode cX7_noteThing 30 = .ok (.aload_n 0, 1) := dr9 dk9_dX7_noteThing_0_0.1 16 (30, .aload_n 0, 1) rfl
theorem dX7_noteThing_31 : decode cX7_noteThing 31 = .ok (.getfield 27, 3) := dr9 dk9_dX7_noteThing_0_0.1 17 (31, .getfield 27, 3) rfl
theorem dX7_noteThing_34 : decode cX7_noteThing 34 = .ok (.iload_n 2, 1) := dr9 dk9_dX7_noteThing_0_0.1 18 (34, .iload_n 2, 1) rfl
theorem dX7_noteThing_35 : decode cX7_noteThing 35 = .ok (.iastore, 1) := dr9 dk9_dX7_noteThing_0_0.1 19 (35, .iastore, 1) rfl
theorem dX7_noteThing_36 : decode cX7_noteThing 36 = .ok (.aload_n 0, 1) := dr9 dk9_dX7_noteThing_0_0.1 20 (36, .aload_n 0, 1) rfl
theorem dX7_noteThing_37 : decode cX7_noteThing 37 = .ok (.getfield 18, 3) := dr9 dk9_dX7_noteThing_0_0.1 21 (37, .getfield 18, 3) rfl
theorem dX7_noteThing_40 : decode cX7_noteThing 40 = .ok (.aload_n 0, 1) := dr9 dk9_dX7_noteThing_0_0.1 22 (40, .aload_n 0, 1) rfl
theorem dX7_noteThing_41 : decode cX7_noteThing 41 = .ok (.getfield 27, 3) := dr9 dk9_dX7_noteThing_0_0.1 23 (41, .getfield 27, 3) rfl
theorem dX7_noteThing_44 : decode cX7_noteThing 44 = .ok (.iload_n 3, 1) := dr9 dk9_dX7_noteThing_0_0.2 0 (44, .iload_n 3, 1) rfl
theorem dX7_noteThing_45 : decode cX7_noteThing 45 = .ok (.iastore, 1) := dr9 dk9_dX7_noteThing_0_0.2 1 (45, .iastore, 1) rfl
theorem dX7_noteThing_46 : decode cX7_noteThing 46 = .ok (.aload_n 0, 1) := dr9 dk9_dX7_noteThing_0_0.2 2 (46, .aload_n 0, 1) rfl
theorem dX7_noteThing_47 : decode cX7_noteThing 47 = .ok (.dup, 1) := dr9 dk9_dX7_noteThing_0_0.2 3 (47, .dup, 1) rfl
theorem dX7_noteThing_48 : decode cX7_noteThing 48 = .ok (.getfield 27, 3) := dr9 dk9_dX7_noteThing_0_0.2 4 (48, .getfield 27, 3) rfl
theorem dX7_noteThing_51 : decode cX7_noteThing 51 = .ok (.iconst 1, 1) := dr9 dk9_dX7_noteThing_0_0.2 5 (51, .iconst 1, 1) rfl
theorem dX7_noteThing_52 : decode cX7_noteThing 52 = .ok (.iadd, 1) := dr9 dk9_dX7_noteThing_0_0.2 6 (52, .iadd, 1) rfl
theorem dX7_noteThing_53 : decode cX7_noteThing 53 = .ok (.putfield 27, 3) := dr9 dk9_dX7_noteThing_0_0.2 7 (53, .putfield 27, 3) rfl
theorem dk9_dX7_ofThing_0_0 : dOk cX7_ofThing [(0, .iload_n 1, 1), (1, .ifCond .lt 11, 3), (12, .iconst (-1), 1), (13, .ireturn, 1), (4, .iload_n 1, 1), (5, .aload_n 0, 1), (6, .getfield 27, 3), (9, .if_icmp .lt 5, 3), (14, .iload_n 2, 1), (15, .tableswitch 46 0 2 #[25, 32, 39], 25), (40, .aload_n 0, 1), (41, .getfield 9, 3), (44, .iload_n 1, 1), (45, .iaload, 1), (46, .ireturn, 1), (47, .aload_n 0, 1), (48, .getfield 15, 3), (51, .iload_n 1, 1), (52, .iaload, 1), (53, .ireturn, 1), (54, .aload_n 0, 1), (55, .getfield 18, 3), (58, .iload_n 1, 1), (59, .iaload, 1)] = true ∧ dOk cX7_ofThing [(60, .ireturn, 1), (61, .iconst (-1), 1), (62, .ireturn, 1)] = true := by decide +kernel
theorem dX7_ofThing_0 : decode cX7_ofThing 0 = .ok (.iload_n 1, 1) := dr9 dk9_dX7_ofThing_0_0.1 0 (0, .iload_n 1, 1) rfl
theorem dX7_ofThing_1 : decode cX7_ofThing 1 = .ok (.ifCond .lt 11, 3) := dr9 dk9_dX7_ofThing_0_0.1 1 (1, .ifCond .lt 11, 3) rfl
theorem dX7_ofThing_12 : decode cX7_ofThing 12 = .ok (.iconst (-1), 1) := dr9 dk9_dX7_ofThing_0_0.1 2 (12, .iconst (-1), 1) rfl
theorem dX7_ofThing_13 : decode cX7_ofThing 13 = .ok (.ireturn, 1) := dr9 dk9_dX7_ofThing_0_0.1 3 (13, .ireturn, 1) rfl
theorem dX7_ofThing_4 : decode cX7_ofThing 4 = .ok (.iload_n 1, 1) := dr9 dk9_dX7_ofThing_0_0.1 4 (4, .iload_n 1, 1) rfl
theorem dX7_ofThing_5 : decode cX7_ofThing 5 = .ok (.aload_n 0, 1) := dr9 dk9_dX7_ofThing_0_0.1 5 (5, .aload_n 0, 1) rfl
theorem dX7_ofThing_6 : decode cX7_ofThing 6 = .ok (.getfield 27, 3) := dr9 dk9_dX7_ofThing_0_0.1 6 (6, .getfield 27, 3) rfl
theorem dX7_ofThing_9 : decode cX7_ofThing 9 = .ok (.if_icmp .lt 5, 3) := dr9 dk9_dX7_ofThing_0_0.1 7 (9, .if_icmp .lt 5, 3) rfl
theorem dX7_ofThing_14 : decode cX7_ofThing 14 = .ok (.iload_n 2, 1) := dr9 dk9_dX7_ofThing_0_0.1 8 (14, .iload_n 2, 1) rfl
theorem dX7_ofThing_15 : decode cX7_ofThing 15 = .ok (.tableswitch 46 0 2 #[25, 32, 39], 25) := dr9 dk9_dX7_ofThing_0_0.1 9 (15, .tableswitch 46 0 2 #[25, 32, 39], 25) rfl
theorem dX7_ofThing_40 : decode cX7_ofThing 40 = .ok (.aload_n 0, 1) := dr9 dk9_dX7_ofThing_0_0.1 10 (40, .aload_n 0, 1) rfl
theorem dX7_ofThing_41 : decode cX7_ofThing 41 = .ok (.getfield 9, 3) := dr9 dk9_dX7_ofThing_0_0.1 11 (41, .getfield 9, 3) rfl
theorem dX7_ofThing_44 : decode cX7_ofThing 44 = .ok (.iload_n 1, 1) := dr9 dk9_dX7_ofThing_0_0.1 12 (44, .iload_n 1, 1) rfl
theorem dX7_ofThing_45 : decode cX7_ofThing 45 = .ok (.iaload, 1) := dr9 dk9_dX7_ofThing_0_0.1 13 (45, .iaload, 1) rfl
theorem dX7_ofThing_46 : decode cX7_ofThing 46 = .ok (.ireturn, 1) := dr9 dk9_dX7_ofThing_0_0.1 14 (46, .ireturn, 1) rfl
theorem dX7_ofThing_47 : decode cX7_ofThing 47 = .ok (.aload_n 0, 1) := dr9 dk9_dX7_ofThing_0_0.1 15 (47, .aload_n 0, 1) rfl
theorem dX7_ofThing_48 : decode cX7_ofThing 48 = .ok (.getfield 15, 3) := dr9 dk9_dX7_ofThing_0_0.1 16 (48, .getfield 15, 3) rfl
theorem dX7_ofThing_51 : decode cX7_ofThing 51 = .ok (.iload_n 1, 1) := dr9 dk9_dX7_ofThing_0_0.1 17 (51, .iload_n 1, 1) rfl
theorem dX7_ofThing_52 : decode cX7_ofThing 52 = .ok (.iaload, 1) := dr9 dk9_dX7_ofThing_0_0.1 18 (52, .iaload, 1) rfl
theorem dX7_ofThing_53 : decode cX7_ofThing 53 = .ok (.ireturn, 1) := dr9 dk9_dX7_ofThing_0_0.1 19 (53, .ireturn, 1) rfl
theorem dX7_ofThing_54 : decode cX7_ofThing 54 = .ok (.aload_n 0, 1) := dr9 dk9_dX7_ofThing_0_0.1 20 (54, .aload_n 0, 1) rfl
theorem dX7_ofThing_55 : decode cX7_ofThing 55 = .ok (.getfield 18, 3) := dr9 dk9_dX7_ofThing_0_0.1 21 (55, .getfield 18, 3) rfl
theorem dX7_ofThing_58 : decode cX7_ofThing 58 = .ok (.iload_n 1, 1) := dr9 dk9_dX7_ofThing_0_0.1 22 (58, .iload_n 1, 1) rfl
theorem dX7_ofThing_59 : decode cX7_ofThing 59 = .ok (.iaload, 1) := dr9 dk9_dX7_ofThing_0_0.1 23 (59, .iaload, 1) rfl
theorem dX7_ofThing_60 : decode cX7_ofThing 60 = .ok (.ireturn, 1) := dr9 dk9_dX7_ofThing_0_0.2 0 (60, .ireturn, 1) rfl
theorem dX7_ofThing_61 : decode cX7_ofThing 61 = .ok (.iconst (-1), 1) := dr9 dk9_dX7_ofThing_0_0.2 1 (61, .iconst (-1), 1) rfl
theorem dX7_ofThing_62 : decode cX7_ofThing 62 = .ok (.ireturn, 1) := dr9 dk9_dX7_ofThing_0_0.2 2 (62, .ireturn, 1) rfl
theorem dk9_dX7_noteClosing_0_0 : dOk cX7_noteClosing [(0, .aload_n 0, 1), (1, .getfield 31, 3), (4, .sipush 300, 3), (7, .if_icmp .ge 33, 3), (40, .return_, 1), (10, .aload_n 0, 1), (11, .getfield 21, 3), (14, .aload_n 0, 1), (15, .getfield 31, 3), (18, .iload_n 1, 1), (19, .iastore, 1), (20, .aload_n 0, 1), (21, .getfield 24, 3), (24, .aload_n 0, 1), (25, .getfield 31, 3), (28, .iload_n 2, 1), (29, .iastore, 1), (30, .aload_n 0, 1), (31, .dup, 1), (32, .getfield 31, 3), (35, .iconst 1, 1), (36, .iadd, 1), (37, .putfield 31, 3)] = true := by decide +kernel
theorem dX7_noteClosing_0 : decode cX7_noteClosing 0 = .ok (.aload_n 0, 1) := dr9 dk9_dX7_noteClosing_0_0 0 (0, .aload_n 0, 1) rfl
theorem dX7_noteClosing_1 : decode cX7_noteClosing 1 = .ok (.getfield 31, 3) := dr9 dk9_dX7_noteClosing_0_0 1 (1, .getfield 31, 3) rfl
theorem dX7_noteClosing_4 : decode cX7_noteClosing 4 = .ok (.sipush 300, 3) := dr9 dk9_dX7_noteClosing_0_0 2 (4, .sipush 300, 3) rfl
theorem dX7_noteClosing_7 : decode cX7_noteClosing 7 = .ok (.if_icmp .ge 33, 3) := dr9 dk9_dX7_noteClosing_0_0 3 (7, .if_icmp .ge 33, 3) rfl
theorem dX7_noteClosing_40 : decode cX7_noteClosing 40 = .ok (.return_, 1) := dr9 dk9_dX7_noteClosing_0_0 4 (40, .return_, 1) rfl
theorem dX7_noteClosing_10 : decode cX7_noteClosing 10 = .ok (.aload_n 0, 1) := dr9 dk9_dX7_noteClosing_0_0 5 (10, .aload_n 0, 1) rfl
theorem dX7_noteClosing_11 : decode cX7_noteClosing 11 = .ok (.getfield 21, 3) := dr9 dk9_dX7_noteClosing_0_0 6 (11, .getfield 21, 3) rfl
theorem dX7_noteClosing_14 : decode cX7_noteClosing 14 = .ok (.aload_n 0, 1) := dr9 dk9_dX7_noteClosing_0_0 7 (14, .aload_n 0, 1) rfl
theorem dX7_noteClosing_15 : decode cX7_noteClosing 15 = .ok (.getfield 31, 3) := dr9 dk9_dX7_noteClosing_0_0 8 (15, .getfield 31, 3) rfl
theorem dX7_noteClosing_18 : decode cX7_noteClosing 18 = .ok (.iload_n 1, 1) := dr9 dk9_dX7_noteClosing_0_0 9 (18, .iload_n 1, 1) rfl
theorem dX7_noteClosing_19 : decode cX7_noteClosing 19 = .ok (.iastore, 1) := dr9 dk9_dX7_noteClosing_0_0 10 (19, .iastore, 1) rfl
theorem dX7_noteClosing_20 : decode cX7_noteClosing 20 = .ok (.aload_n 0, 1) := dr9 dk9_dX7_noteClosing_0_0 11 (20, .aload_n 0, 1) rfl
theorem dX7_noteClosing_21 : decode cX7_noteClosing 21 = .ok (.getfield 24, 3) := dr9 dk9_dX7_noteClosing_0_0 12 (21, .getfield 24, 3) rfl
theorem dX7_noteClosing_24 : decode cX7_noteClosing 24 = .ok (.aload_n 0, 1) := dr9 dk9_dX7_noteClosing_0_0 13 (24, .aload_n 0, 1) rfl
theorem dX7_noteClosing_25 : decode cX7_noteClosing 25 = .ok (.getfield 31, 3) := dr9 dk9_dX7_noteClosing_0_0 14 (25, .getfield 31, 3) rfl
theorem dX7_noteClosing_28 : decode cX7_noteClosing 28 = .ok (.iload_n 2, 1) := dr9 dk9_dX7_noteClosing_0_0 15 (28, .iload_n 2, 1) rfl
theorem dX7_noteClosing_29 : decode cX7_noteClosing 29 = .ok (.iastore, 1) := dr9 dk9_dX7_noteClosing_0_0 16 (29, .iastore, 1) rfl
theorem dX7_noteClosing_30 : decode cX7_noteClosing 30 = .ok (.aload_n 0, 1) := dr9 dk9_dX7_noteClosing_0_0 17 (30, .aload_n 0, 1) rfl
theorem dX7_noteClosing_31 : decode cX7_noteClosing 31 = .ok (.dup, 1) := dr9 dk9_dX7_noteClosing_0_0 18 (31, .dup, 1) rfl
theorem dX7_noteClosing_32 : decode cX7_noteClosing 32 = .ok (.getfield 31, 3) := dr9 dk9_dX7_noteClosing_0_0 19 (32, .getfield 31, 3) rfl
theorem dX7_noteClosing_35 : decode cX7_noteClosing 35 = .ok (.iconst 1, 1) := dr9 dk9_dX7_noteClosing_0_0 20 (35, .iconst 1, 1) rfl
theorem dX7_noteClosing_36 : decode cX7_noteClosing 36 = .ok (.iadd, 1) := dr9 dk9_dX7_noteClosing_0_0 21 (36, .iadd, 1) rfl
theorem dX7_noteClosing_37 : decode cX7_noteClosing 37 = .ok (.putfield 31, 3) := dr9 dk9_dX7_noteClosing_0_0 22 (37, .putfield 31, 3) rfl
theorem dk9_dX7_ofClosing_0_0 : dOk cX7_ofClosing [(0, .iload_n 1, 1), (1, .ifCond .lt 11, 3), (12, .iconst (-1), 1), (13, .ireturn, 1), (4, .iload_n 1, 1), (5, .aload_n 0, 1), (6, .getfield 31, 3), (9, .if_icmp .lt 5, 3), (14, .iload_n 2, 1), (15, .ifCond .ne 12, 3), (27, .iload_n 2, 1), (28, .iconst 1, 1), (29, .if_icmp .ne 12, 3), (41, .iconst (-1), 1), (42, .ireturn, 1), (32, .aload_n 0, 1), (33, .getfield 24, 3), (36, .iload_n 1, 1), (37, .iaload, 1), (38, .goto 4, 3), (18, .aload_n 0, 1), (19, .getfield 21, 3), (22, .iload_n 1, 1), (23, .iaload, 1)] = true ∧ dOk cX7_ofClosing [(24, .goto 18, 3)] = true := by decide +kernel
theorem dX7_ofClosing_0 : decode cX7_ofClosing 0 = .ok (.iload_n 1, 1) := dr9 dk9_dX7_ofClosing_0_0.1 0 (0, .iload_n 1, 1) rfl
theorem dX7_ofClosing_1 : decode cX7_ofClosing 1 = .ok (.ifCond .lt 11, 3) := dr9 dk9_dX7_ofClosing_0_0.1 1 (1, .ifCond .lt 11, 3) rfl
theorem dX7_ofClosing_12 : decode cX7_ofClosing 12 = .ok (.iconst (-1), 1) := dr9 dk9_dX7_ofClosing_0_0.1 2 (12, .iconst (-1), 1) rfl
theorem dX7_ofClosing_13 : decode cX7_ofClosing 13 = .ok (.ireturn, 1) := dr9 dk9_dX7_ofClosing_0_0.1 3 (13, .ireturn, 1) rfl
theorem dX7_ofClosing_4 : decode cX7_ofClosing 4 = .ok (.iload_n 1, 1) := dr9 dk9_dX7_ofClosing_0_0.1 4 (4, .iload_n 1, 1) rfl
theorem dX7_ofClosing_5 : decode cX7_ofClosing 5 = .ok (.aload_n 0, 1) := dr9 dk9_dX7_ofClosing_0_0.1 5 (5, .aload_n 0, 1) rfl
theorem dX7_ofClosing_6 : decode cX7_ofClosing 6 = .ok (.getfield 31, 3) := dr9 dk9_dX7_ofClosing_0_0.1 6 (6, .getfield 31, 3) rfl
theorem dX7_ofClosing_9 : decode cX7_ofClosing 9 = .ok (.if_icmp .lt 5, 3) := dr9 dk9_dX7_ofClosing_0_0.1 7 (9, .if_icmp .lt 5, 3) rfl
theorem dX7_ofClosing_14 : decode cX7_ofClosing 14 = .ok (.iload_n 2, 1) := dr9 dk9_dX7_ofClosing_0_0.1 8 (14, .iload_n 2, 1) rfl
theorem dX7_ofClosing_15 : decode cX7_ofClosing 15 = .ok (.ifCond .ne 12, 3) := dr9 dk9_dX7_ofClosing_0_0.1 9 (15, .ifCond .ne 12, 3) rfl
theorem dX7_ofClosing_27 : decode cX7_ofClosing 27 = .ok (.iload_n 2, 1) := dr9 dk9_dX7_ofClosing_0_0.1 10 (27, .iload_n 2, 1) rfl
theorem dX7_ofClosing_28 : decode cX7_ofClosing 28 = .ok (.iconst 1, 1) := dr9 dk9_dX7_ofClosing_0_0.1 11 (28, .iconst 1, 1) rfl
theorem dX7_ofClosing_29 : decode cX7_ofClosing 29 = .ok (.if_icmp .ne 12, 3) := dr9 dk9_dX7_ofClosing_0_0.1 12 (29, .if_icmp .ne 12, 3) rfl
theorem dX7_ofClosing_41 : decode cX7_ofClosing 41 = .ok (.iconst (-1), 1) := dr9 dk9_dX7_ofClosing_0_0.1 13 (41, .iconst (-1), 1) rfl
theorem dX7_ofClosing_42 : decode cX7_ofClosing 42 = .ok (.ireturn, 1) := dr9 dk9_dX7_ofClosing_0_0.1 14 (42, .ireturn, 1) rfl
theorem dX7_ofClosing_32 : decode cX7_ofClosing 32 = .ok (.aload_n 0, 1) := dr9 dk9_dX7_ofClosing_0_0.1 15 (32, .aload_n 0, 1) rfl
theorem dX7_ofClosing_33 : decode cX7_ofClosing 33 = .ok (.getfield 24, 3) := dr9 dk9_dX7_ofClosing_0_0.1 16 (33, .getfield 24, 3) rfl
theorem dX7_ofClosing_36 : decode cX7_ofClosing 36 = .ok (.iload_n 1, 1) := dr9 dk9_dX7_ofClosing_0_0.1 17 (36, .iload_n 1, 1) rfl
theorem dX7_ofClosing_37 : decode cX7_ofClosing 37 = .ok (.iaload, 1) := dr9 dk9_dX7_ofClosing_0_0.1 18 (37, .iaload, 1) rfl
theorem dX7_ofClosing_38 : decode cX7_ofClosing 38 = .ok (.goto 4, 3) := dr9 dk9_dX7_ofClosing_0_0.1 19 (38, .goto 4, 3) rfl
theorem dX7_ofClosing_18 : decode cX7_ofClosing 18 = .ok (.aload_n 0, 1) := dr9 dk9_dX7_ofClosing_0_0.1 20 (18, .aload_n 0, 1) rfl
theorem dX7_ofClosing_19 : decode cX7_ofClosing 19 = .ok (.getfield 21, 3) := dr9 dk9_dX7_ofClosing_0_0.1 21 (19, .getfield 21, 3) rfl
theorem dX7_ofClosing_22 : decode cX7_ofClosing 22 = .ok (.iload_n 1, 1) := dr9 dk9_dX7_ofClosing_0_0.1 22 (22, .iload_n 1, 1) rfl
theorem dX7_ofClosing_23 : decode cX7_ofClosing 23 = .ok (.iaload, 1) := dr9 dk9_dX7_ofClosing_0_0.1 23 (23, .iaload, 1) rfl
theorem dX7_ofClosing_24 : decode cX7_ofClosing 24 = .ok (.goto 18, 3) := dr9 dk9_dX7_ofClosing_0_0.2 0 (24, .goto 18, 3) rfl
theorem dk9_dX7_noteCause_0_0 : dOk cX7_noteCause [(0, .aload_n 0, 1), (1, .iload_n 1, 1), (2, .putfield 34, 3), (5, .aload_n 0, 1), (6, .iload_n 2, 1), (7, .putfield 37, 3), (10, .return_, 1)] = true := by decide +kernel
theorem dX7_noteCause_0 : decode cX7_noteCause 0 = .ok (.aload_n 0, 1) := dr9 dk9_dX7_noteCause_0_0 0 (0, .aload_n 0, 1) rfl
theorem dX7_noteCause_1 : decode cX7_noteCause 1 = .ok (.iload_n 1, 1) := dr9 dk9_dX7_noteCause_0_0 1 (1, .iload_n 1, 1) rfl
theorem dX7_noteCause_2 : decode cX7_noteCause 2 = .ok (.putfield 34, 3) := dr9 dk9_dX7_noteCause_0_0 2 (2, .putfield 34, 3) rfl
theorem dX7_noteCause_5 : decode cX7_noteCause 5 = .ok (.aload_n 0, 1) := dr9 dk9_dX7_noteCause_0_0 3 (5, .aload_n 0, 1) rfl
theorem dX7_noteCause_6 : decode cX7_noteCause 6 = .ok (.iload_n 2, 1) := dr9 dk9_dX7_noteCause_0_0 4 (6, .iload_n 2, 1) rfl
theorem dX7_noteCause_7 : decode cX7_noteCause 7 = .ok (.putfield 37, 3) := dr9 dk9_dX7_noteCause_0_0 5 (7, .putfield 37, 3) rfl
theorem dX7_noteCause_10 : decode cX7_noteCause 10 = .ok (.return_, 1) := dr9 dk9_dX7_noteCause_0_0 6 (10, .return_, 1) rfl
theorem dk9_dX7_kindOfCause_0_0 : dOk cX7_kindOfCause [(0, .iload_n 1, 1), (1, .ifCond .lt 11, 3), (12, .iconst 0, 1), (13, .ireturn, 1), (4, .iload_n 1, 1), (5, .aload_n 0, 1), (6, .getfield 34, 3), (9, .if_icmp .le 5, 3), (14, .iload_n 1, 1), (15, .aload_n 0, 1), (16, .getfield 34, 3), (19, .if_icmp .ge 8, 3), (27, .aload_n 0, 1), (28, .getfield 37, 3), (31, .ireturn, 1), (22, .bipush 20, 2), (24, .goto 7, 3)] = true := by decide +kernel
theorem dX7_kindOfCause_0 : decode cX7_kindOfCause 0 = .ok (.iload_n 1, 1) := dr9 dk9_dX7_kindOfCause_0_0 0 (0, .iload_n 1, 1) rfl
theorem dX7_kindOfCause_1 : decode cX7_kindOfCause 1 = .ok (.ifCond .lt 11, 3) := dr9 dk9_dX7_kindOfCause_0_0 1 (1, .ifCond .lt 11, 3) rfl
theorem dX7_kindOfCause_12 : decode cX7_kindOfCause 12 = .ok (.iconst 0, 1) := dr9 dk9_dX7_kindOfCause_0_0 2 (12, .iconst 0, 1) rfl
theorem dX7_kindOfCause_13 : decode cX7_kindOfCause 13 = .ok (.ireturn, 1) := dr9 dk9_dX7_kindOfCause_0_0 3 (13, .ireturn, 1) rfl
theorem dX7_kindOfCause_4 : decode cX7_kindOfCause 4 = .ok (.iload_n 1, 1) := dr9 dk9_dX7_kindOfCause_0_0 4 (4, .iload_n 1, 1) rfl
theorem dX7_kindOfCause_5 : decode cX7_kindOfCause 5 = .ok (.aload_n 0, 1) := dr9 dk9_dX7_kindOfCause_0_0 5 (5, .aload_n 0, 1) rfl
theorem dX7_kindOfCause_6 : decode cX7_kindOfCause 6 = .ok (.getfield 34, 3) := dr9 dk9_dX7_kindOfCause_0_0 6 (6, .getfield 34, 3) rfl
theorem dX7_kindOfCause_9 : decode cX7_kindOfCause 9 = .ok (.if_icmp .le 5, 3) := dr9 dk9_dX7_kindOfCause_0_0 7 (9, .if_icmp .le 5, 3) rfl
theorem dX7_kindOfCause_14 : decode cX7_kindOfCause 14 = .ok (.iload_n 1, 1) := dr9 dk9_dX7_kindOfCause_0_0 8 (14, .iload_n 1, 1) rfl
theorem dX7_kindOfCause_15 : decode cX7_kindOfCause 15 = .ok (.aload_n 0, 1) := dr9 dk9_dX7_kindOfCause_0_0 9 (15, .aload_n 0, 1) rfl
theorem dX7_kindOfCause_16 : decode cX7_kindOfCause 16 = .ok (.getfield 34, 3) := dr9 dk9_dX7_kindOfCause_0_0 10 (16, .getfield 34, 3) rfl
theorem dX7_kindOfCause_19 : decode cX7_kindOfCause 19 = .ok (.if_icmp .ge 8, 3) := dr9 dk9_dX7_kindOfCause_0_0 11 (19, .if_icmp .ge 8, 3) rfl
theorem dX7_kindOfCause_27 : decode cX7_kindOfCause 27 = .ok (.aload_n 0, 1) := dr9 dk9_dX7_kindOfCause_0_0 12 (27, .aload_n 0, 1) rfl
theorem dX7_kindOfCause_28 : decode cX7_kindOfCause 28 = .ok (.getfield 37, 3) := dr9 dk9_dX7_kindOfCause_0_0 13 (28, .getfield 37, 3) rfl
theorem dX7_kindOfCause_31 : decode cX7_kindOfCause 31 = .ok (.ireturn, 1) := dr9 dk9_dX7_kindOfCause_0_0 14 (31, .ireturn, 1) rfl
theorem dX7_kindOfCause_22 : decode cX7_kindOfCause 22 = .ok (.bipush 20, 2) := dr9 dk9_dX7_kindOfCause_0_0 15 (22, .bipush 20, 2) rfl
theorem dX7_kindOfCause_24 : decode cX7_kindOfCause 24 = .ok (.goto 7, 3) := dr9 dk9_dX7_kindOfCause_0_0 16 (24, .goto 7, 3) rfl
abbrev r_x_isDigit : Room := { frames := 0, cells := 0, slots := 0, locals := 0 }
abbrev q_x_isDigit (D : va_G) (p0 : Int32) (A : Nat → Prop) : Array Value → State → Outcome → State → Prop := va_Qi (fun (r : Int32) (_ : Unit) => (0 ≤ r.toInt ∧ r.toInt ≤ 1)) (fun _ t => gq D A [] [] t) A
set_option maxHeartbeats 4000000 in
set_option maxRecDepth 100000 in
theorem x_isDigit (l : Launch) (D : va_G) (ks : KS) (sz : Nat) (p0 : Int32)  : Met l yX9_isDigit (Cond.code yX9_isDigit cX9_isDigit 1 (some .boolean) :: GW) r_x_isDigit (va_Pc [.int p0] (gp D ks ([]) ([]) sz)) (q_x_isDigit D p0 (va_A ([]) sz)) 0 0 (va_A ([]) sz) := by
  refine g_met (q_x_isDigit D p0) (by decide) (Nat.le_of_ble_eq_true rfl) ?_
  intro p e s m below meth c A ls H locs hx hb hr hml hown hg hlocks hin hnw hgk hP hK hD hS hA hl
  have hown : s.vm.findClass RX9 = some m.cls := hown
  have hl : lv_has ls 1 [(0, .int p0)] := hl
  refine lv_iload_n hx hb dX9_isDigit_0 rfl (lv_at hl 0 rfl) ?_
  refine lv_bipush (v := 48) hx hb dX9_isDigit_1 (by decide) ?_
  refine lv_icmp_lt (tgt := 16) hx hb dX9_isDigit_3 (by decide) (fun c1 => ?_) (fun c1 => ?_)
  · skip
    have f2 : p0.toInt < 48 := b_lt rfl (by decide) c1
    refine lv_iconst (v := 0) hx hb dX9_isDigit_16 (by decide) ?_
    exact W.zret (v := 0) hx hb hr rfl (fun t ht hW => ⟨⟨0, (), rfl, (by decide), by rw [ht]; exact hP, va_K.moved hW.alike hK, hD⟩, hS.F ht⟩) hS.2.2 dX9_isDigit_17
  · skip
    have f3 : 48 ≤ p0.toInt := b_nlt rfl (by decide) c1
    refine lv_iload_n hx hb dX9_isDigit_6 rfl (lv_at hl 0 rfl) ?_
    refine lv_bipush (v := 57) hx hb dX9_isDigit_7 (by decide) ?_
    refine lv_icmp_gt (tgt := 16) hx hb dX9_isDigit_9 (by decide) (fun c4 => ?_) (fun c4 => ?_)
    · skip
      have f5 : 57 < p0.toInt := b_lt (by decide) rfl c4
      refine lv_iconst (v := 0) hx hb dX9_isDigit_16 (by decide) ?_
      exact W.zret (v := 0) hx hb hr rfl (fun t ht hW => ⟨⟨0, (), rfl, (by decide), by rw [ht]; exact hP, va_K.moved hW.alike hK, hD⟩, hS.F ht⟩) hS.2.2 dX9_isDigit_17
    · skip
      have f6 : p0.toInt ≤ 57 := b_nlt (by decide) rfl c4
      refine lv_iconst (v := 1) hx hb dX9_isDigit_12 (by decide) ?_
      refine lv_goto (tgt := 17) hx hb dX9_isDigit_13 (by decide) ?_
      exact W.zret (v := 1) hx hb hr rfl (fun t ht hW => ⟨⟨1, (), rfl, (by decide), by rw [ht]; exact hP, va_K.moved hW.alike hK, hD⟩, hS.F ht⟩) hS.2.2 dX9_isDigit_17
abbrev r_x_isLetter : Room := { frames := 0, cells := 0, slots := 0, locals := 0 }
abbrev q_x_isLetter (D : va_G) (p0 : Int32) (A : Nat → Prop) : Array Value → State → Outcome → State → Prop := va_Qi (fun (r : Int32) (_ : Unit) => (0 ≤ r.toInt ∧ r.toInt ≤ 1)) (fun _ t => gq D A [] [] t) A
set_option maxHeartbeats 4000000 in
set_option maxRecDepth 100000 in
theorem x_isLetter (l : Launch) (D : va_G) (ks : KS) (sz : Nat) (p0 : Int32)  : Met l yX9_isLetter (Cond.code yX9_isLetter cX9_isLetter 1 (some .boolean) :: GW) r_x_isLetter (va_Pc [.int p0] (gp D ks ([]) ([]) sz)) (q_x_isLetter D p0 (va_A ([]) sz)) 0 0 (va_A ([]) sz) := by
  refine g_met (q_x_isLetter D p0) (by decide) (Nat.le_of_ble_eq_true rfl) ?_
  intro p e s m below meth c A ls H locs hx hb hr hml hown hg hlocks hin hnw hgk hP hK hD hS hA hl
  have hown : s.vm.findClass RX9 = some m.cls := hown
  have hl : lv_has ls 1 [(0, .int p0)] := hl
  refine lv_iload_n hx hb dX9_isLetter_0 rfl (lv_at hl 0 rfl) ?_
  refine lv_bipush (v := 97) hx hb dX9_isLetter_1 (by decide) ?_
  refine lv_icmp_lt (tgt := 16) hx hb dX9_isLetter_3 (by decide) (fun c1 => ?_) (fun c1 => ?_)
  · skip
    have f2 : p0.toInt < 97 := b_lt rfl (by decide) c1
    refine lv_iconst (v := 0) hx hb dX9_isLetter_16 (by decide) ?_
    exact W.zret (v := 0) hx hb hr rfl (fun t ht hW => ⟨⟨0, (), rfl, (by decide), by rw [ht]; exact hP, va_K.moved hW.alike hK, hD⟩, hS.F ht⟩) hS.2.2 dX9_isLetter_17
  · skip
    have f3 : 97 ≤ p0.toInt := b_nlt rfl (by decide) c1
    refine lv_iload_n hx hb dX9_isLetter_6 rfl (lv_at hl 0 rfl) ?_
    refine lv_bipush (v := 122) hx hb dX9_isLetter_7 (by decide) ?_
    refine lv_icmp_gt (tgt := 16) hx hb dX9_isLetter_9 (by decide) (fun c4 => ?_) (fun c4 => ?_)
    · skip
      have f5 : 122 < p0.toInt := b_lt (by decide) rfl c4
      refine lv_iconst (v := 0) hx hb dX9_isLetter_16 (by decide) ?_
      exact W.zret (v := 0) hx hb hr rfl (fun t ht hW => ⟨⟨0, (), rfl, (by decide), by rw [ht]; exact hP, va_K.moved hW.alike hK, hD⟩, hS.F ht⟩) hS.2.2 dX9_isLetter_17
    · skip
      have f6 : p0.toInt ≤ 122 := b_nlt (by decide) rfl c4
      refine lv_iconst (v := 1) hx hb dX9_isLetter_12 (by decide) ?_
      refine lv_goto (tgt := 17) hx hb dX9_isLetter_13 (by decide) ?_
      exact W.zret (v := 1) hx hb hr rfl (fun t ht hW => ⟨⟨1, (), rfl, (by decide), by rw [ht]; exact hP, va_K.moved hW.alike hK, hD⟩, hS.F ht⟩) hS.2.2 dX9_isLetter_17
abbrev r_x_codeOf : Room := { frames := 1, cells := 0, slots := 0, locals := 20 }
abbrev q_x_codeOf (D : va_G) (p0 : Int32) (A : Nat → Prop) : Array Value → State → Outcome → State → Prop := va_Qi (fun (r : Int32) (_ : Unit) => True) (fun _ t => gq D A [] [] t) A
set_option maxHeartbeats 4000000 in
set_option maxRecDepth 100000 in
theorem x_codeOf (l : Launch) (D : va_G) (ks : KS) (sz : Nat) (p0 : Int32)  : Met l yX9_codeOf (Cond.code yX9_codeOf cX9_codeOf 1 (some .int) :: GW) r_x_codeOf (va_Pc [.int p0] (gp D ks ([]) ([]) sz)) (q_x_codeOf D p0 (va_A ([]) sz)) 0 0 (va_A ([]) sz) := by
  refine g_met (q_x_codeOf D p0) (by decide) (Nat.le_of_ble_eq_true rfl) ?_
  intro p e s m below meth c A ls H locs hx hb hr hml hown hg hlocks hin hnw hgk hP hK hD hS hA hl
  have hown : s.vm.findClass RX9 = some m.cls := hown
  have hl : lv_has ls 1 [(0, .int p0)] := hl
  refine lv_iload_n hx hb dX9_codeOf_0 rfl (lv_at hl 0 rfl) ?_
  refine gE_int (g_runS (As := [.int p0]) (rest := []) (wc := []) (tc := []) hx hb hml hown hg gw_self hP hD hK hS hA hnw hgk [] [] (by decide) rfl rfl (x_isDigit l D ks H.size p0 ) w249 w250 w157 w251 hdS_yX9_isDigit ⟨Nat.le_of_ble_eq_true rfl, Nat.le_of_ble_eq_true rfl⟩ rfl hl.1 rfl (Nat.le_of_ble_eq_true rfl) dX9_codeOf_1 ⟨Nat.le_of_ble_eq_true rfl, Nat.le_of_ble_eq_true rfl⟩) hP hD hK hS hA (fun z1 u2 H locs w3 hP hD hK hS => ?_)
  have rgz1 := w3
  have rgz1 : 0 ≤ z1.toInt ∧ z1.toInt ≤ 1 := rgz1
  refine lv_if_eq (tgt := 17) hx hb dX9_codeOf_4 (by decide) (fun c4 => ?_) (fun c4 => ?_)
  · skip
    have f5 : z1.toInt = 0 := b_eq rfl (by decide) c4
    refine lv_iload_n hx hb dX9_codeOf_17 rfl (lv_at hl 0 rfl) ?_
    refine lv_bipush (v := 97) hx hb dX9_codeOf_18 (by decide) ?_
    refine lv_isub hx hb dX9_codeOf_20 ?_
    have r6 := i_full p0
    refine lv_topi (fun z7 ez7 => ?_)
    have hz7 : Imp (-2147483648 ≤ p0.toInt - 97 ∧ p0.toInt - 97 ≤ 2147483647) (z7.toInt = p0.toInt - 97) := Imp.mk (fun hp => i_sub ez7 rfl (by decide) hp)
    refine lv_iconst (v := 1) hx hb dX9_codeOf_21 (by decide) ?_
    refine lv_iadd hx hb dX9_codeOf_22 ?_
    have r8 := i_full z7
    refine lv_topi (fun z9 ez9 => ?_)
    have hz9 : Imp (-2147483648 ≤ z7.toInt + 1 ∧ z7.toInt + 1 ≤ 2147483647) (z9.toInt = z7.toInt + 1) := Imp.mk (fun hp => i_add ez9 rfl (by decide) hp)
    exact W.iret (v := z9) hx hb hr (fun t ht hW => ⟨⟨z9, (), rfl, trivial, by rw [ht]; exact hP, va_K.moved hW.alike hK, hD⟩, hS.F ht⟩) hS.2.2 dX9_codeOf_23
  · skip
    have f10 : z1.toInt ≠ 0 := b_neq rfl (by decide) c4
    refine lv_iload_n hx hb dX9_codeOf_7 rfl (lv_at hl 0 rfl) ?_
    refine lv_bipush (v := 48) hx hb dX9_codeOf_8 (by decide) ?_
    refine lv_isub hx hb dX9_codeOf_10 ?_
    have r11 := i_full p0
    refine lv_topi (fun z12 ez12 => ?_)
    have hz12 : Imp (-2147483648 ≤ p0.toInt - 48 ∧ p0.toInt - 48 ≤ 2147483647) (z12.toInt = p0.toInt - 48) := Imp.mk (fun hp => i_sub ez12 rfl (by decide) hp)
    refine lv_bipush (v := 27) hx hb dX9_codeOf_11 (by decide) ?_
    refine lv_iadd hx hb dX9_codeOf_13 ?_
    have r13 := i_full z12
    refine lv_topi (fun z14 ez14 => ?_)
    have hz14 : Imp (-2147483648 ≤ z12.toInt + 27 ∧ z12.toInt + 27 ≤ 2147483647) (z14.toInt = z12.toInt + 27) := Imp.mk (fun hp => i_add ez14 rfl (by decide) hp)
    refine lv_goto (tgt := 23) hx hb dX9_codeOf_14 (by decide) ?_
    exact W.iret (v := z14) hx hb hr (fun t ht hW => ⟨⟨z14, (), rfl, trivial, by rw [ht]; exact hP, va_K.moved hW.alike hK, hD⟩, hS.F ht⟩) hS.2.2 dX9_codeOf_23
abbrev r_x_kindOf : Room := { frames := 0, cells := 0, slots := 0, locals := 0 }
abbrev q_x_kindOf (D : va_G) (ks : KS) (ad : Nat → Nat) (kk : Nat → ClassId) (V : Vf) (L : Lf) (Z : XZ) (p0 : Int64) (A : Nat → Prop) : Array Value → State → Outcome → State → Prop := va_Qi (fun (r : Int32) (_ : Unit) => True) (fun _ t => gq D A (xw ad kk V L Z) (xty kk Z) t) A
set_option maxHeartbeats 4000000 in
set_option maxRecDepth 100000 in
theorem x_kindOf (l : Launch) (D : va_G) (ks : KS) (sz : Nat) (ad : Nat → Nat) (kk : Nat → ClassId) (V : Vf) (L : Lf) (Z : XZ) (p0 : Int64) (hMV : rgd bX V)  : Met l yX9_kindOf (Cond.code yX9_kindOf cX9_kindOf 4 (some .int) :: GW) r_x_kindOf (va_Pc [.ref (ad 6), .long p0] (gp D ks (xw ad kk V L Z) (xty kk Z) sz)) (q_x_kindOf D ks ad kk V L Z p0 (va_A (xw ad kk V L Z) sz)) 0 0 (va_A (xw ad kk V L Z) sz) := by
  refine g_met (q_x_kindOf D ks ad kk V L Z p0) (by decide) (Nat.le_of_ble_eq_true rfl) ?_
  intro p e s m below meth c A ls H locs hx hb hr hml hown hg hlocks hin hnw hgk hP hK hD hS hA hl
  have hown : s.vm.findClass RX9 = some m.cls := hown
  have hl : lv_has ls 4 [(0, .ref (ad 6)), (1, .long p0)] := hl
  have hP : va_P D vwCl (xw ad kk V L Z) H := hP
  have hD : va_D A (xw ad kk V L Z) := hD
  have hK : va_K D vwCl (xty kk Z) s := hK
  refine lv_iconst (v := 0) hx hb dX9_kindOf_0 (by decide) ?_
  refine lv_istore_n (lv' := [(3, .int 0), (0, .ref (ad 6)), (1, .long p0)]) hx hb dX9_kindOf_1 rfl hl (by decide) rfl (fun ls hl => ?_)
  have lp2 : ∀ (fulp2 : Nat) (y1 : Int32) (H : Heap) (locs : List Loc) (ls : Array Slot), 0 ≤ y1.toInt ∧ y1.toInt ≤ 28 → 28 - y1.toInt < (fulp2 : Int) → va_P D vwCl (xw ad kk V L Z) H → va_D A (xw ad kk V L Z) → va_S A s.heap H locs → lv_has ls 4 [(3, .int y1), (0, .ref (ad 6)), (1, .long p0)] → W p l e r_x_kindOf s m ([.ref (ad 6), .long p0] : List Value).toArray below meth c H locs 0 0 (MQ below (q_x_kindOf D ks ad kk V L Z p0 A) ([.ref (ad 6), .long p0] : List Value).toArray s 0 0 A) (F0 m 2 ls []) := by
    intro fulp2
    induction fulp2 with
    | zero =>
      intro y1 H locs ls klp2_0 hn  hP hD hS hl
      exfalso; (first | exact om_8009d6250780 klp2_0.2 hn | omega)
    | succ fulp2 ihlp2 =>
      intro y1 H locs ls klp2_0 hn  hP hD hS hl
      refine lv_iload_n hx hb dX9_kindOf_2 rfl (lv_at hl 0 rfl) ?_
      refine lv_bipush (v := 28) hx hb dX9_kindOf_3 (by decide) ?_
      refine lv_icmp_ge (tgt := 31) hx hb dX9_kindOf_5 (by decide) (fun c3 => ?_) (fun c3 => ?_)
      · skip
        have f4 : 28 ≤ y1.toInt := b_le (by decide) rfl c3
        refine lv_iconst (v := 3) hx hb dX9_kindOf_31 (by decide) ?_
        exact W.iret (v := 3) hx hb hr (fun t ht hW => ⟨⟨3, (), rfl, trivial, by rw [ht]; exact hP, va_K.moved hW.alike hK, hD⟩, hS.F ht⟩) hS.2.2 dX9_kindOf_32
      · skip
        have f5 : y1.toInt < 28 := b_nle (by decide) rfl c3
        refine lv_aload_n hx hb dX9_kindOf_8 rfl (lv_at hl 1 rfl) ?_
        refine va_get (D := D) (ci := 9) (v := .ref (ad 8)) (fs := (xfTape ad V L Z)) (C := RX9) (T := TX9) (N := 12) hx hb hg inX9 hown hK hP 6 xgTape rfl 1 (by decide) (hg _ w253) (fun _ h9 => h9) rfl dX9_kindOf_9 ?_
        refine lv_iload_n hx hb dX9_kindOf_12 rfl (lv_at hl 0 rfl) ?_
        refine va_lald (D := D) (i := y1) hx hb hK hP 8 1 rfl rfl (i_in (a := y1.toInt) rfl (by (first | exact om_f6a89a6d9ec1 klp2_0.1 f5 | omega))) dX9_kindOf_13 ?_
        refine lv_topl (fun w6 ew6 => ?_)
        refine lv_lload_n hx hb dX9_kindOf_14 rfl (lv_at hl 2 rfl) ?_
        refine W.lcmp hx hb dX9_kindOf_15 ?_
        refine lv_topi (fun z7 ez7 => ?_)
        have hz7 : -1 ≤ z7.toInt ∧ z7.toInt ≤ 1 := lcmp_r ez7
        refine lv_if_ne (tgt := 25) hx hb dX9_kindOf_16 (by decide) (fun c8 => ?_) (fun c8 => ?_)
        · skip
          have f9 : z7.toInt ≠ 0 := b_neq rfl (by decide) c8
          obtain ⟨z10, ez10⟩ : ∃ y : Int32, y = y1 + 1 := ⟨_, rfl⟩
          have hz10 : z10.toInt = y1.toInt + 1 := i_add ez10 rfl (by decide) (by (first | exact om_5bde2511380b klp2_0.1 f5 | omega))
          refine lv_iinc (v := z10) (lv' := [(3, .int z10), (0, .ref (ad 6)), (1, .long p0)]) hx hb dX9_kindOf_25 hl (k := 0) rfl (by rw [ez10]; rfl) (by decide) rfl (fun ls hl => ?_)
          refine lv_goto (tgt := 2) hx hb dX9_kindOf_28 (by decide) ?_
          exact ihlp2 z10 H locs ls (by (first | exact om_e53fff2320c6 klp2_0.1 f5 hz10 | omega)) (by (first | exact om_e591ec508e02 hn hz10 | omega)) hP hD hS (lv_sub hl [0, 1, 2] rfl)
        · skip
          have f11 : z7.toInt = 0 := b_eq rfl (by decide) c8
          refine lv_sipush (v := 128) hx hb dX9_kindOf_19 (by decide) ?_
          refine lv_iload_n hx hb dX9_kindOf_22 rfl (lv_at hl 0 rfl) ?_
          refine lv_iadd hx hb dX9_kindOf_23 ?_
          refine lv_topi (fun z12 ez12 => ?_)
          have hz12 : z12.toInt = 128 + y1.toInt := i_add ez12 (by decide) rfl (by (first | exact om_e545d8213972 klp2_0.1 f5 | omega))
          exact W.iret (v := z12) hx hb hr (fun t ht hW => ⟨⟨z12, (), rfl, trivial, by rw [ht]; exact hP, va_K.moved hW.alike hK, hD⟩, hS.F ht⟩) hS.2.2 dX9_kindOf_24
  have r13 : Int32.toInt 0 = 0 := by decide
  exact lp2 ((28 - (Int32.toInt 0) + 1 : Int).toNat) 0 H locs ls (by decide) (by (first | exact om_8d46326cbfc1 | omega)) hP hD hS (lv_sub hl [0, 1, 2] rfl)
abbrev r_x_empty : Room := { frames := 0, cells := 0, slots := 0, locals := 0 }
abbrev q_x_empty (D : va_G) (ks : KS) (ad : Nat → Nat) (kk : Nat → ClassId) (V : Vf) (L : Lf) (Z : XZ) (A : Nat → Prop) : Array Value → State → Outcome → State → Prop := va_Qv (fun (u : Vf × Lf) => rgd bX u.1 ∧ agr [(6, 5)] [] V u.1 ∧ u.2 = L ∧ ((u.1 6 5).toInt = 0)) (fun u t => gq D A (xw ad kk u.1 u.2 Z) (xty kk Z) t) A
set_option maxHeartbeats 4000000 in
set_option maxRecDepth 100000 in
theorem x_empty (l : Launch) (D : va_G) (ks : KS) (sz : Nat) (ad : Nat → Nat) (kk : Nat → ClassId) (V : Vf) (L : Lf) (Z : XZ)  (hMV : rgd bX V)  : Met l yX9_empty (Cond.code yX9_empty cX9_empty 1 none :: GW) r_x_empty (va_Pc [.ref (ad 6)] (gp D ks (xw ad kk V L Z) (xty kk Z) sz)) (q_x_empty D ks ad kk V L Z  (va_A (xw ad kk V L Z) sz)) 0 0 (va_A (xw ad kk V L Z) sz) := by
  refine g_met (q_x_empty D ks ad kk V L Z) (by decide) (Nat.le_of_ble_eq_true rfl) ?_
  intro p e s m below meth c A ls H locs hx hb hr hml hown hg hlocks hin hnw hgk hP hK hD hS hA hl
  have hown : s.vm.findClass RX9 = some m.cls := hown
  have hl : lv_has ls 1 [(0, .ref (ad 6))] := hl
  have hP : va_P D vwCl (xw ad kk V L Z) H := hP
  have hD : va_D A (xw ad kk V L Z) := hD
  have hK : va_K D vwCl (xty kk Z) s := hK
  have agV : agr [(6, 5)] [] V V := agr.rf
  refine lv_aload_n hx hb dX9_empty_0 rfl (lv_at hl 0 rfl) ?_
  refine lv_iconst (v := 0) hx hb dX9_empty_1 (by decide) ?_
  refine va_put (D := D) (ci := 9) (v := .int 0) (ty := tyX9 5) (fs := (xfTape ad V L Z)) (C := RX9) (T := TX9) (N := 12) hx hb hg inX9 tyX9 tyX9_ok nmX9 hown hK hP hD hS 6 xgTape rfl 5 (by decide) (hg _ w258) (fun _ h9 => h9) rfl (tyX9_ok 5 (by decide)) rfl rfl (Nat.le_of_ble_eq_true rfl) dX9_empty_2 (fun H locs hP hD hS => ?_)
  obtain ⟨V1, hV1⟩ : ∃ z, z = up2 V 6 5 0 := ⟨_, rfl⟩
  have ew2 : (xw ad kk V L Z).set 6 ((ad 6), .inr (9, (xfTape ad V L Z).set 5 (.int 0))) = xw ad kk V1 L Z := by rw [hV1]; exact xw_ss (by decide) rfl (xb_si (by decide))
  have hP : va_P D vwCl (xw ad kk V1 L Z) H := by rw [← ew2]; exact hP
  have hD : va_D A (xw ad kk V1 L Z) := by rw [← ew2]; exact hD
  have hMV1 : rgd bX V1 := hMV.put hV1 (by decide)
  have agV1 : agr [(6, 5)] [] V V1 := agV.up hV1 rfl
  have pq3 : (V1 6 5).toInt = 0 := (congrArg Int32.toInt (up2_s hV1)).trans (by decide)
  exact W.vret hx hb hr (fun t ht hW => ⟨⟨(V1, L), rfl, ⟨hMV1, agV1, rfl, (show (V1 6 5).toInt = 0 from by (first | exact om_b66ba74381d5 pq3 | omega))⟩, by rw [ht]; exact hP, va_K.moved hW.alike hK, hD⟩, hS.F ht⟩) hS.2.2 dX9_empty_5
abbrev r_x_next : Room := { frames := 0, cells := 0, slots := 0, locals := 0 }
abbrev q_x_next (D : va_G) (ks : KS) (ad : Nat → Nat) (kk : Nat → ClassId) (V : Vf) (L : Lf) (Z : XZ) (A : Nat → Prop) : Array Value → State → Outcome → State → Prop := va_Qv (fun (u : Vf × Lf) => rgd bX u.1 ∧ agr [(6, 8), (6, 9), (6, 10)] [] V u.1 ∧ agL [6] L u.2) (fun u t => gq D A (xw ad kk u.1 u.2 Z) (xty kk Z) t) A
set_option maxHeartbeats 4000000 in
set_option maxRecDepth 100000 in
theorem x_next (l : Launch) (D : va_G) (ks : KS) (sz : Nat) (ad : Nat → Nat) (kk : Nat → ClassId) (V : Vf) (L : Lf) (Z : XZ)  (hMV : rgd bX V)  : Met l yX9_next (Cond.code yX9_next cX9_next 1 none :: GW) r_x_next (va_Pc [.ref (ad 6)] (gp D ks (xw ad kk V L Z) (xty kk Z) sz)) (q_x_next D ks ad kk V L Z  (va_A (xw ad kk V L Z) sz)) 0 0 (va_A (xw ad kk V L Z) sz) := by
  refine g_met (q_x_next D ks ad kk V L Z) (by decide) (Nat.le_of_ble_eq_true rfl) ?_
  intro p e s m below meth c A ls H locs hx hb hr hml hown hg hlocks hin hnw hgk hP hK hD hS hA hl
  have hown : s.vm.findClass RX9 = some m.cls := hown
  have hl : lv_has ls 1 [(0, .ref (ad 6))] := hl
  have hP : va_P D vwCl (xw ad kk V L Z) H := hP
  have hD : va_D A (xw ad kk V L Z) := hD
  have hK : va_K D vwCl (xty kk Z) s := hK
  have agV : agr [(6, 8), (6, 9), (6, 10)] [] V V := agr.rf
  have alL : agL [6] L L := agL.rf
  refine lv_aload_n hx hb dX9_next_0 rfl (lv_at hl 0 rfl) ?_
  refine lv_aload_n hx hb dX9_next_1 rfl (lv_at hl 0 rfl) ?_
  refine va_get (D := D) (ci := 9) (v := .ref (ad 9)) (fs := (xfTape ad V L Z)) (C := RX9) (T := TX9) (N := 12) hx hb hg inX9 hown hK hP 6 xgTape rfl 2 (by decide) (hg _ w254) (fun _ h9 => h9) rfl dX9_next_2 ?_
  refine lv_aload_n hx hb dX9_next_5 rfl (lv_at hl 0 rfl) ?_
  refine va_get (D := D) (ci := 9) (v := .int (V 6 8)) (fs := (xfTape ad V L Z)) (C := RX9) (T := TX9) (N := 12) hx hb hg inX9 hown hK hP 6 xgTape rfl 8 (by decide) (hg _ w261) (fun _ h9 => h9) rfl dX9_next_6 ?_
  have r1 : 0 ≤ ((V 6 8)).toInt ∧ ((V 6 8)).toInt ≤ 4000 := hMV 6 8
  refine va_iald (D := D) (i := (V 6 8)) hx hb hK hP 9 2 rfl rfl (i_in (a := ((V 6 8)).toInt) rfl (by (first | exact om_d7f25fda8b0e r1.1 r1.2 | omega))) dX9_next_9 ?_
  refine va_put (D := D) (ci := 9) (v := .int (V 12 (Int32.toNatClampNeg (V 6 8)))) (ty := tyX9 9) (fs := (xfTape ad V L Z)) (C := RX9) (T := TX9) (N := 12) hx hb hg inX9 tyX9 tyX9_ok nmX9 hown hK hP hD hS 6 xgTape rfl 9 (by decide) (hg _ w264) (fun _ h9 => h9) rfl (tyX9_ok 9 (by decide)) rfl rfl (Nat.le_of_ble_eq_true rfl) dX9_next_10 (fun H locs hP hD hS => ?_)
  obtain ⟨V2, hV2⟩ : ∃ z, z = up2 V 6 9 (V 12 (Int32.toNatClampNeg (V 6 8))) := ⟨_, rfl⟩
  have ew3 : (xw ad kk V L Z).set 6 ((ad 6), .inr (9, (xfTape ad V L Z).set 9 (.int (V 12 (Int32.toNatClampNeg (V 6 8)))))) = xw ad kk V2 L Z := by rw [hV2]; exact xw_ss (by decide) rfl (xb_si (by decide))
  have hP : va_P D vwCl (xw ad kk V2 L Z) H := by rw [← ew3]; exact hP
  have hD : va_D A (xw ad kk V2 L Z) := by rw [← ew3]; exact hD
  have hMV2 : rgd bX V2 := hMV.put hV2 (i_full _)
  have agV2 : agr [(6, 8), (6, 9), (6, 10)] [] V V2 := agV.up hV2 rfl
  refine lv_aload_n hx hb dX9_next_13 rfl (lv_at hl 0 rfl) ?_
  refine lv_aload_n hx hb dX9_next_14 rfl (lv_at hl 0 rfl) ?_
  refine va_get (D := D) (ci := 9) (v := .ref (ad 10)) (fs := (xfTape ad V2 L Z)) (C := RX9) (T := TX9) (N := 12) hx hb hg inX9 hown hK hP 6 xgTape rfl 3 (by decide) (hg _ w255) (fun _ h9 => h9) rfl dX9_next_15 ?_
  refine lv_aload_n hx hb dX9_next_18 rfl (lv_at hl 0 rfl) ?_
  refine va_get (D := D) (ci := 9) (v := .int (V2 6 8)) (fs := (xfTape ad V2 L Z)) (C := RX9) (T := TX9) (N := 12) hx hb hg inX9 hown hK hP 6 xgTape rfl 8 (by decide) (hg _ w261) (fun _ h9 => h9) rfl dX9_next_19 ?_
  refine g_top (v := (V 6 8)) (up2_k hV2 (by decide)) ?_
  refine va_iald (D := D) (i := (V 6 8)) hx hb hK hP 10 3 rfl rfl (i_in (a := ((V 6 8)).toInt) rfl (by (first | exact om_d7f25fda8b0e r1.1 r1.2 | omega))) dX9_next_22 ?_
  refine g_top (v := (V 13 (Int32.toNatClampNeg (V 6 8)))) (up2_o hV2 (by decide)) ?_
  have r4 : 0 ≤ ((V 13 (Int32.toNatClampNeg (V 6 8)))).toInt ∧ ((V 13 (Int32.toNatClampNeg (V 6 8)))).toInt ≤ 4000 := hMV 13 (Int32.toNatClampNeg (V 6 8))
  refine va_put (D := D) (ci := 9) (v := .int (V 13 (Int32.toNatClampNeg (V 6 8)))) (ty := tyX9 10) (fs := (xfTape ad V2 L Z)) (C := RX9) (T := TX9) (N := 12) hx hb hg inX9 tyX9 tyX9_ok nmX9 hown hK hP hD hS 6 xgTape rfl 10 (by decide) (hg _ w265) (fun _ h9 => h9) rfl (tyX9_ok 10 (by decide)) rfl rfl (Nat.le_of_ble_eq_true rfl) dX9_next_23 (fun H locs hP hD hS => ?_)
  obtain ⟨V5, hV5⟩ : ∃ z, z = up2 V2 6 10 (V 13 (Int32.toNatClampNeg (V 6 8))) := ⟨_, rfl⟩
  have ew6 : (xw ad kk V2 L Z).set 6 ((ad 6), .inr (9, (xfTape ad V2 L Z).set 10 (.int (V 13 (Int32.toNatClampNeg (V 6 8)))))) = xw ad kk V5 L Z := by rw [hV5]; exact xw_ss (by decide) rfl (xb_si (by decide))
  have hP : va_P D vwCl (xw ad kk V5 L Z) H := by rw [← ew6]; exact hP
  have hD : va_D A (xw ad kk V5 L Z) := by rw [← ew6]; exact hD
  have hMV5 : rgd bX V5 := hMV2.put hV5 (show 0 ≤ ((V 13 (Int32.toNatClampNeg (V 6 8)))).toInt ∧ ((V 13 (Int32.toNatClampNeg (V 6 8)))).toInt ≤ 4000 from by (first | exact om_1194ef72f15b r4.1 r4.2 | omega))
  have agV5 : agr [(6, 8), (6, 9), (6, 10)] [] V V5 := agV2.up hV5 rfl
  refine lv_aload_n hx hb dX9_next_26 rfl (lv_at hl 0 rfl) ?_
  refine lv_aload_n hx hb dX9_next_27 rfl (lv_at hl 0 rfl) ?_
  refine va_get (D := D) (ci := 9) (v := .ref (ad 11)) (fs := (xfTape ad V5 L Z)) (C := RX9) (T := TX9) (N := 12) hx hb hg inX9 hown hK hP 6 xgTape rfl 4 (by decide) (hg _ w256) (fun _ h9 => h9) rfl dX9_next_28 ?_
  refine lv_aload_n hx hb dX9_next_31 rfl (lv_at hl 0 rfl) ?_
  refine va_get (D := D) (ci := 9) (v := .int (V5 6 8)) (fs := (xfTape ad V5 L Z)) (C := RX9) (T := TX9) (N := 12) hx hb hg inX9 hown hK hP 6 xgTape rfl 8 (by decide) (hg _ w261) (fun _ h9 => h9) rfl dX9_next_32 ?_
  refine g_top (v := (V 6 8)) ((up2_k hV5 (by decide)).trans (up2_k hV2 (by decide))) ?_
  refine va_lald (D := D) (i := (V 6 8)) hx hb hK hP 11 4 rfl rfl (i_in (a := ((V 6 8)).toInt) rfl (by (first | exact om_d7f25fda8b0e r1.1 r1.2 | omega))) dX9_next_35 ?_
  refine lv_topl (fun w7 ew7 => ?_)
  refine va_put (D := D) (ci := 9) (v := .long w7) (ty := tyX9 11) (fs := (xfTape ad V5 L Z)) (C := RX9) (T := TX9) (N := 12) hx hb hg inX9 tyX9 tyX9_ok nmX9 hown hK hP hD hS 6 xgTape rfl 11 (by decide) (hg _ w268) (fun _ h9 => h9) rfl (tyX9_ok 11 (by decide)) rfl rfl (Nat.le_of_ble_eq_true rfl) dX9_next_36 (fun H locs hP hD hS => ?_)
  obtain ⟨L8, hL8⟩ : ∃ z, z = upL L 6 11 w7 := ⟨_, rfl⟩
  have ew9 : (xw ad kk V5 L Z).set 6 ((ad 6), .inr (9, (xfTape ad V5 L Z).set 11 (.long w7))) = xw ad kk V5 L8 Z := by rw [hL8]; exact xw_ss (by decide) rfl (fun j => xe_L (fun a => absurd a.1 (by decide)))
  have hP : va_P D vwCl (xw ad kk V5 L8 Z) H := by rw [← ew9]; exact hP
  have hD : va_D A (xw ad kk V5 L8 Z) := by rw [← ew9]; exact hD
  have alL8 : agL [6] L L8 := agL.up alL hL8 rfl
  refine lv_aload_n hx hb dX9_next_39 rfl (lv_at hl 0 rfl) ?_
  refine va_get (D := D) (ci := 9) (v := .int (V5 6 8)) (fs := (xfTape ad V5 L8 Z)) (C := RX9) (T := TX9) (N := 12) hx hb hg inX9 hown hK hP 6 xgTape rfl 8 (by decide) (hg _ w261) (fun _ h9 => h9) rfl dX9_next_40 ?_
  refine g_top (v := (V 6 8)) ((up2_k hV5 (by decide)).trans (up2_k hV2 (by decide))) ?_
  refine lv_aload_n hx hb dX9_next_43 rfl (lv_at hl 0 rfl) ?_
  refine va_get (D := D) (ci := 9) (v := .int (V5 6 7)) (fs := (xfTape ad V5 L8 Z)) (C := RX9) (T := TX9) (N := 12) hx hb hg inX9 hown hK hP 6 xgTape rfl 7 (by decide) (hg _ w260) (fun _ h9 => h9) rfl dX9_next_44 ?_
  refine g_top (v := (V 6 7)) ((up2_k hV5 (by decide)).trans (up2_k hV2 (by decide))) ?_
  have r10 : 0 ≤ ((V 6 7)).toInt ∧ ((V 6 7)).toInt ≤ 4000 := hMV 6 7
  refine lv_icmp_ge (tgt := 60) hx hb dX9_next_47 (by decide) (fun c11 => ?_) (fun c11 => ?_)
  · skip
    have f12 : ((V 6 7)).toInt ≤ ((V 6 8)).toInt := b_le rfl rfl c11
    exact W.vret hx hb hr (fun t ht hW => ⟨⟨(V5, L8), rfl, ⟨hMV5, agV5, alL8⟩, by rw [ht]; exact hP, va_K.moved hW.alike hK, hD⟩, hS.F ht⟩) hS.2.2 dX9_next_60
  · skip
    have f13 : ((V 6 8)).toInt < ((V 6 7)).toInt := b_nle rfl rfl c11
    refine lv_aload_n hx hb dX9_next_50 rfl (lv_at hl 0 rfl) ?_
    refine lv_dup hx hb dX9_next_51 rfl ?_
    refine va_get (D := D) (ci := 9) (v := .int (V5 6 8)) (fs := (xfTape ad V5 L8 Z)) (C := RX9) (T := TX9) (N := 12) hx hb hg inX9 hown hK hP 6 xgTape rfl 8 (by decide) (hg _ w261) (fun _ h9 => h9) rfl dX9_next_52 ?_
    refine g_top (v := (V 6 8)) ((up2_k hV5 (by decide)).trans (up2_k hV2 (by decide))) ?_
    refine lv_iconst (v := 1) hx hb dX9_next_55 (by decide) ?_
    refine lv_iadd hx hb dX9_next_56 ?_
    refine lv_topi (fun z14 ez14 => ?_)
    have hz14 : z14.toInt = ((V 6 8)).toInt + 1 := i_add ez14 rfl (by decide) (by (first | exact om_b8a2391ac875 r1.1 r10.2 f13 | omega))
    refine va_put (D := D) (ci := 9) (v := .int z14) (ty := tyX9 8) (fs := (xfTape ad V5 L8 Z)) (C := RX9) (T := TX9) (N := 12) hx hb hg inX9 tyX9 tyX9_ok nmX9 hown hK hP hD hS 6 xgTape rfl 8 (by decide) (hg _ w261) (fun _ h9 => h9) rfl (tyX9_ok 8 (by decide)) rfl rfl (Nat.le_of_ble_eq_true rfl) dX9_next_57 (fun H locs hP hD hS => ?_)
    obtain ⟨V15, hV15⟩ : ∃ z, z = up2 V5 6 8 z14 := ⟨_, rfl⟩
    have ew16 : (xw ad kk V5 L8 Z).set 6 ((ad 6), .inr (9, (xfTape ad V5 L8 Z).set 8 (.int z14))) = xw ad kk V15 L8 Z := by rw [hV15]; exact xw_ss (by decide) rfl (xb_si (by decide))
    have hP : va_P D vwCl (xw ad kk V15 L8 Z) H := by rw [← ew16]; exact hP
    have hD : va_D A (xw ad kk V15 L8 Z) := by rw [← ew16]; exact hD
    have hMV15 : rgd bX V15 := hMV5.put hV15 (show 0 ≤ z14.toInt ∧ z14.toInt ≤ 4000 from by (first | exact om_65a6d0bb414d r1.1 r10.2 f13 hz14 | omega))
    have agV15 : agr [(6, 8), (6, 9), (6, 10)] [] V V15 := agV5.up hV15 rfl
    exact W.vret hx hb hr (fun t ht hW => ⟨⟨(V15, L8), rfl, ⟨hMV15, agV15, alL8⟩, by rw [ht]; exact hP, va_K.moved hW.alike hK, hD⟩, hS.F ht⟩) hS.2.2 dX9_next_60
abbrev r_x_append : Room := { frames := 0, cells := 0, slots := 0, locals := 0 }
abbrev q_x_append (D : va_G) (ks : KS) (ad : Nat → Nat) (kk : Nat → ClassId) (V : Vf) (L : Lf) (Z : XZ) (p0 : Int64) (k0 : Nat) (A : Nat → Prop) : Array Value → State → Outcome → State → Prop := va_Qv (fun (u : Vf × Lf) => rgd bX u.1 ∧ agr [(6, 5)] [10] V u.1 ∧ u.2 = L ∧ ((u.1 6 5).toInt = ((apk 8 p0 k0 : Nat) : Int))) (fun u t => gq D A (xw ad kk u.1 u.2 Z) (xty kk Z) t) A
abbrev r_x_cutNumber : Room := { frames := 1, cells := 0, slots := 0, locals := 20 }
abbrev q_x_cutNumber (D : va_G) (ks : KS) (ad : Nat → Nat) (kk : Nat → ClassId) (V : Vf) (L : Lf) (Z : XZ) (A : Nat → Prop) : Array Value → State → Outcome → State → Prop := va_Qv (fun (u : Vf × Lf) => rgd bX u.1 ∧ agr [(6, 6)] [12, 14] V u.1 ∧ agL [14] L u.2 ∧ ((u.1 6 6).toInt ≤ (V 6 5).toInt) ∧ ((V 6 6).toInt ≤ (u.1 6 6).toInt)) (fun u t => gq D A (xw ad kk u.1 u.2 Z) (xty kk Z) t) A
set_option maxHeartbeats 4000000 in
set_option maxRecDepth 100000 in
theorem x_cutNumber (l : Launch) (D : va_G) (ks : KS) (sz : Nat) (ad : Nat → Nat) (kk : Nat → ClassId) (V : Vf) (L : Lf) (Z : XZ)  (hMV : rgd bX V) (y1 : (V 6 6).toInt ≤ (V 6 5).toInt) (y2 : (V 6 7).toInt < (V 6 6).toInt ∨ (V 6 7).toInt ≤ 3999)  : Met l yX9_cutNumber (Cond.code yX9_cutNumber cX9_cutNumber 4 none :: GW) r_x_cutNumber (va_Pc [.ref (ad 6)] (gp D ks (xw ad kk V L Z) (xty kk Z) sz)) (q_x_cutNumber D ks ad kk V L Z  (va_A (xw ad kk V L Z) sz)) 0 0 (va_A (xw ad kk V L Z) sz) := by
  refine g_met (q_x_cutNumber D ks ad kk V L Z) (by decide) (Nat.le_of_ble_eq_true rfl) ?_
  intro p e s m below meth c A ls H locs hx hb hr hml hown hg hlocks hin hnw hgk hP hK hD hS hA hl
  have hown : s.vm.findClass RX9 = some m.cls := hown
  have hl : lv_has ls 4 [(0, .ref (ad 6))] := hl
  have hP : va_P D vwCl (xw ad kk V L Z) H := hP
  have hD : va_D A (xw ad kk V L Z) := hD
  have hK : va_K D vwCl (xty kk Z) s := hK
  have agV : agr [(6, 6)] [12, 14] V V := agr.rf
  have alL : agL [14] L L := agL.rf
  have r1 : 0 ≤ ((V 6 5)).toInt ∧ ((V 6 5)).toInt ≤ 4000 := hMV 6 5
  have r2 : 0 ≤ ((V 6 6)).toInt ∧ ((V 6 6)).toInt ≤ 4000 := hMV 6 6
  have r3 : 0 ≤ ((V 6 7)).toInt ∧ ((V 6 7)).toInt ≤ 4000 := hMV 6 7
  refine lv_iconst (v := 0) hx hb dX9_cutNumber_0 (by decide) ?_
  refine lv_istore_n (lv' := [(1, .int 0), (0, .ref (ad 6))]) hx hb dX9_cutNumber_1 rfl hl (by decide) rfl (fun ls hl => ?_)
  refine lv_lconst (v := 0) hx hb dX9_cutNumber_2 (by decide) ?_
  refine lv_lstore_n (lv' := [(2, .long 0), (1, .int 0), (0, .ref (ad 6))]) hx hb dX9_cutNumber_3 rfl hl (by decide) rfl (fun ls hl => ?_)
  have lp7 : ∀ (fulp7 : Nat) (y4 : Int64) (y5 : Int32) (V6 : Vf) (H : Heap) (locs : List Loc) (ls : Array Slot), 0 ≤ y5.toInt ∧ y5.toInt ≤ 4000 → (V6 6 6).toInt ≤ (V6 6 5).toInt → (V 6 6).toInt + y5.toInt = (V6 6 6).toInt → (V6 6 5).toInt - (V6 6 6).toInt < (fulp7 : Int) → agr [(6, 6)] [] V V6 → rgd bX V6 → va_P D vwCl (xw ad kk V6 L Z) H → va_D A (xw ad kk V6 L Z) → va_S A s.heap H locs → lv_has ls 4 [(2, .long y4), (1, .int y5), (0, .ref (ad 6))] → W p l e r_x_cutNumber s m ([.ref (ad 6)] : List Value).toArray below meth c H locs 0 0 (MQ below (q_x_cutNumber D ks ad kk V L Z  A) ([.ref (ad 6)] : List Value).toArray s 0 0 A) (F0 m 4 ls []) := by
    intro fulp7
    induction fulp7 with
    | zero =>
      intro y4 y5 V6 H locs ls klp7_0 xlp7_0 xlp7_1 hn ajV6 hMV6 hP hD hS hl
      exfalso; (first | exact om_4634b1278845 xlp7_0 hn | omega)
    | succ fulp7 ihlp7 =>
      intro y4 y5 V6 H locs ls klp7_0 xlp7_0 xlp7_1 hn ajV6 hMV6 hP hD hS hl
      have agV6 : agr [(6, 6)] [12, 14] V V6 := agV.tr ajV6 (by decide) (by decide)
      have pq8 : (V6 6 5).toInt = ((V 6 5)).toInt := congrArg Int32.toInt (ajV6 6 5 rfl)
      have r9 : 0 ≤ ((V6 6 6)).toInt ∧ ((V6 6 6)).toInt ≤ 4000 := hMV6 6 6
      refine lv_aload_n hx hb dX9_cutNumber_4 rfl (lv_at hl 2 rfl) ?_
      refine va_get (D := D) (ci := 9) (v := .int (V6 6 6)) (fs := (xfTape ad V6 L Z)) (C := RX9) (T := TX9) (N := 12) hx hb hg inX9 hown hK hP 6 xgTape rfl 6 (by decide) (hg _ w259) (fun _ h9 => h9) rfl dX9_cutNumber_5 ?_
      refine lv_aload_n hx hb dX9_cutNumber_8 rfl (lv_at hl 2 rfl) ?_
      refine va_get (D := D) (ci := 9) (v := .int (V6 6 5)) (fs := (xfTape ad V6 L Z)) (C := RX9) (T := TX9) (N := 12) hx hb hg inX9 hown hK hP 6 xgTape rfl 5 (by decide) (hg _ w258) (fun _ h9 => h9) rfl dX9_cutNumber_9 ?_
      refine g_top (v := (V 6 5)) (ajV6 6 5 rfl) ?_
      refine lv_icmp_ge (tgt := 77) hx hb dX9_cutNumber_12 (by decide) (fun c10 => ?_) (fun c10 => ?_)
      · skip
        have f11 : ((V 6 5)).toInt ≤ ((V6 6 6)).toInt := b_le rfl rfl c10
        refine lv_aload_n hx hb dX9_cutNumber_77 rfl (lv_at hl 2 rfl) ?_
        refine va_get (D := D) (ci := 9) (v := .ref (ad 9)) (fs := (xfTape ad V6 L Z)) (C := RX9) (T := TX9) (N := 12) hx hb hg inX9 hown hK hP 6 xgTape rfl 2 (by decide) (hg _ w254) (fun _ h9 => h9) rfl dX9_cutNumber_78 ?_
        refine lv_aload_n hx hb dX9_cutNumber_81 rfl (lv_at hl 2 rfl) ?_
        refine va_get (D := D) (ci := 9) (v := .int (V6 6 7)) (fs := (xfTape ad V6 L Z)) (C := RX9) (T := TX9) (N := 12) hx hb hg inX9 hown hK hP 6 xgTape rfl 7 (by decide) (hg _ w260) (fun _ h9 => h9) rfl dX9_cutNumber_82 ?_
        refine g_top (v := (V 6 7)) (ajV6 6 7 rfl) ?_
        refine lv_iload_n hx hb dX9_cutNumber_85 rfl (lv_at hl 1 rfl) ?_
        refine lv_bipush (v := 9) hx hb dX9_cutNumber_86 (by decide) ?_
        refine lv_icmp_le (tgt := 95) hx hb dX9_cutNumber_88 (by decide) (fun c12 => ?_) (fun c12 => ?_)
        · skip
          have f13 : y5.toInt ≤ 9 := b_le rfl (by decide) c12
          refine lv_iconst (v := 2) hx hb dX9_cutNumber_95 (by decide) ?_
          refine va_iast (D := D) (i := (V 6 7)) (x := 2) hx hb hK hP hD hS 9 2 rfl rfl (i_in (a := ((V 6 7)).toInt) rfl (by (first | exact om_d7f25fda8b0e r3.1 r3.2 | omega))) dX9_cutNumber_96 (fun H locs hP hD hS => ?_)
          obtain ⟨V14, hV14⟩ : ∃ z, z = up2 V6 12 (Int32.toNatClampNeg (V 6 7)) 2 := ⟨_, rfl⟩
          have ew15 : (xw ad kk V6 L Z).set 9 ((ad 9), .inl ((kk 9), 4001, .inl (upd (V6 12) (Int32.toNatClampNeg (V 6 7)) 2))) = xw ad kk V14 L Z := by rw [hV14]; exact xw_ss (by decide) rfl (xb_si (by decide))
          have hP : va_P D vwCl (xw ad kk V14 L Z) H := by rw [← ew15]; exact hP
          have hD : va_D A (xw ad kk V14 L Z) := by rw [← ew15]; exact hD
          have hMV14 : rgd bX V14 := hMV6.put hV14 (i_full _)
          have agV14 : agr [(6, 6)] [12, 14] V V14 := agV6.up hV14 rfl
          refine lv_aload_n hx hb dX9_cutNumber_97 rfl (lv_at hl 2 rfl) ?_
          refine va_get (D := D) (ci := 9) (v := .ref (ad 11)) (fs := (xfTape ad V14 L Z)) (C := RX9) (T := TX9) (N := 12) hx hb hg inX9 hown hK hP 6 xgTape rfl 4 (by decide) (hg _ w256) (fun _ h9 => h9) rfl dX9_cutNumber_98 ?_
          refine lv_aload_n hx hb dX9_cutNumber_101 rfl (lv_at hl 2 rfl) ?_
          refine va_get (D := D) (ci := 9) (v := .int (V14 6 7)) (fs := (xfTape ad V14 L Z)) (C := RX9) (T := TX9) (N := 12) hx hb hg inX9 hown hK hP 6 xgTape rfl 7 (by decide) (hg _ w260) (fun _ h9 => h9) rfl dX9_cutNumber_102 ?_
          refine g_top (v := (V 6 7)) ((up2_o hV14 (by decide)).trans (ajV6 6 7 rfl)) ?_
          refine lv_lload_n hx hb dX9_cutNumber_105 rfl (lv_at hl 0 rfl) ?_
          refine va_last (D := D) (i := (V 6 7)) (x := y4) hx hb hK hP hD hS 11 4 rfl rfl (i_in (a := ((V 6 7)).toInt) rfl (by (first | exact om_d7f25fda8b0e r3.1 r3.2 | omega))) dX9_cutNumber_106 (fun H locs hP hD hS => ?_)
          obtain ⟨L16, hL16⟩ : ∃ z, z = upL L 14 (Int32.toNatClampNeg (V 6 7)) y4 := ⟨_, rfl⟩
          have ew17 : (xw ad kk V14 L Z).set 11 ((ad 11), .inl ((kk 11), 4001, .inr (.inl (vp_updL (L 14) (Int32.toNatClampNeg (V 6 7)) y4)))) = xw ad kk V14 L16 Z := by rw [hL16]; exact xw_ss (by decide) rfl (fun j => xe_L (fun a => absurd a.1 (by decide)))
          have hP : va_P D vwCl (xw ad kk V14 L16 Z) H := by rw [← ew17]; exact hP
          have hD : va_D A (xw ad kk V14 L16 Z) := by rw [← ew17]; exact hD
          have alL16 : agL [14] L L16 := agL.up alL hL16 rfl
          have pq18 : (V14 6 6).toInt = ((V6 6 6)).toInt := congrArg Int32.toInt (up2_o hV14 (by decide))
          have pq19 : (V14 6 5).toInt = ((V 6 5)).toInt := congrArg Int32.toInt ((up2_o hV14 (by decide)).trans (ajV6 6 5 rfl))
          exact W.vret hx hb hr (fun t ht hW => ⟨⟨(V14, L16), rfl, ⟨hMV14, agV14, alL16, (show (V14 6 6).toInt ≤ (V 6 5).toInt from by (first | exact om_35d7f5d544b6 xlp7_0 pq8 pq18 | omega)), (show (V 6 6).toInt ≤ (V14 6 6).toInt from by (first | exact om_f7ad29eb57d9 klp7_0.1 xlp7_1 pq18 | omega))⟩, by rw [ht]; exact hP, va_K.moved hW.alike hK, hD⟩, hS.F ht⟩) hS.2.2 dX9_cutNumber_107
        · skip
          have f20 : 9 < y5.toInt := b_nle rfl (by decide) c12
          refine lv_iconst (v := 1) hx hb dX9_cutNumber_91 (by decide) ?_
          refine lv_goto (tgt := 96) hx hb dX9_cutNumber_92 (by decide) ?_
          refine va_iast (D := D) (i := (V 6 7)) (x := 1) hx hb hK hP hD hS 9 2 rfl rfl (i_in (a := ((V 6 7)).toInt) rfl (by (first | exact om_d7f25fda8b0e r3.1 r3.2 | omega))) dX9_cutNumber_96 (fun H locs hP hD hS => ?_)
          obtain ⟨V21, hV21⟩ : ∃ z, z = up2 V6 12 (Int32.toNatClampNeg (V 6 7)) 1 := ⟨_, rfl⟩
          have ew22 : (xw ad kk V6 L Z).set 9 ((ad 9), .inl ((kk 9), 4001, .inl (upd (V6 12) (Int32.toNatClampNeg (V 6 7)) 1))) = xw ad kk V21 L Z := by rw [hV21]; exact xw_ss (by decide) rfl (xb_si (by decide))
          have hP : va_P D vwCl (xw ad kk V21 L Z) H := by rw [← ew22]; exact hP
          have hD : va_D A (xw ad kk V21 L Z) := by rw [← ew22]; exact hD
          have hMV21 : rgd bX V21 := hMV6.put hV21 (i_full _)
          have agV21 : agr [(6, 6)] [12, 14] V V21 := agV6.up hV21 rfl
          refine lv_aload_n hx hb dX9_cutNumber_97 rfl (lv_at hl 2 rfl) ?_
          refine va_get (D := D) (ci := 9) (v := .ref (ad 11)) (fs := (xfTape ad V21 L Z)) (C := RX9) (T := TX9) (N := 12) hx hb hg inX9 hown hK hP 6 xgTape rfl 4 (by decide) (hg _ w256) (fun _ h9 => h9) rfl dX9_cutNumber_98 ?_
          refine lv_aload_n hx hb dX9_cutNumber_101 rfl (lv_at hl 2 rfl) ?_
          refine va_get (D := D) (ci := 9) (v := .int (V21 6 7)) (fs := (xfTape ad V21 L Z)) (C := RX9) (T := TX9) (N := 12) hx hb hg inX9 hown hK hP 6 xgTape rfl 7 (by decide) (hg _ w260) (fun _ h9 => h9) rfl dX9_cutNumber_102 ?_
          refine g_top (v := (V 6 7)) ((up2_o hV21 (by decide)).trans (ajV6 6 7 rfl)) ?_
          refine lv_lload_n hx hb dX9_cutNumber_105 rfl (lv_at hl 0 rfl) ?_
          refine va_last (D := D) (i := (V 6 7)) (x := y4) hx hb hK hP hD hS 11 4 rfl rfl (i_in (a := ((V 6 7)).toInt) rfl (by (first | exact om_d7f25fda8b0e r3.1 r3.2 | omega))) dX9_cutNumber_106 (fun H locs hP hD hS => ?_)
          obtain ⟨L23, hL23⟩ : ∃ z, z = upL L 14 (Int32.toNatClampNeg (V 6 7)) y4 := ⟨_, rfl⟩
          have ew24 : (xw ad kk V21 L Z).set 11 ((ad 11), .inl ((kk 11), 4001, .inr (.inl (vp_updL (L 14) (Int32.toNatClampNeg (V 6 7)) y4)))) = xw ad kk V21 L23 Z := by rw [hL23]; exact xw_ss (by decide) rfl (fun j => xe_L (fun a => absurd a.1 (by decide)))
          have hP : va_P D vwCl (xw ad kk V21 L23 Z) H := by rw [← ew24]; exact hP
          have hD : va_D A (xw ad kk V21 L23 Z) := by rw [← ew24]; exact hD
          have alL23 : agL [14] L L23 := agL.up alL hL23 rfl
          have pq25 : (V21 6 6).toInt = ((V6 6 6)).toInt := congrArg Int32.toInt (up2_o hV21 (by decide))
          have pq26 : (V21 6 5).toInt = ((V 6 5)).toInt := congrArg Int32.toInt ((up2_o hV21 (by decide)).trans (ajV6 6 5 rfl))
          exact W.vret hx hb hr (fun t ht hW => ⟨⟨(V21, L23), rfl, ⟨hMV21, agV21, alL23, (show (V21 6 6).toInt ≤ (V 6 5).toInt from by (first | exact om_35d7f5d544b6 xlp7_0 pq8 pq25 | omega)), (show (V 6 6).toInt ≤ (V21 6 6).toInt from by (first | exact om_8201745062d7 xlp7_1 f20 pq25 | omega))⟩, by rw [ht]; exact hP, va_K.moved hW.alike hK, hD⟩, hS.F ht⟩) hS.2.2 dX9_cutNumber_107
      · skip
        have f27 : ((V6 6 6)).toInt < ((V 6 5)).toInt := b_nle rfl rfl c10
        refine lv_aload_n hx hb dX9_cutNumber_15 rfl (lv_at hl 2 rfl) ?_
        refine va_get (D := D) (ci := 9) (v := .ref (ad 7)) (fs := (xfTape ad V6 L Z)) (C := RX9) (T := TX9) (N := 12) hx hb hg inX9 hown hK hP 6 xgTape rfl 0 (by decide) (hg _ w252) (fun _ h9 => h9) rfl dX9_cutNumber_16 ?_
        refine lv_aload_n hx hb dX9_cutNumber_19 rfl (lv_at hl 2 rfl) ?_
        refine va_get (D := D) (ci := 9) (v := .int (V6 6 6)) (fs := (xfTape ad V6 L Z)) (C := RX9) (T := TX9) (N := 12) hx hb hg inX9 hown hK hP 6 xgTape rfl 6 (by decide) (hg _ w259) (fun _ h9 => h9) rfl dX9_cutNumber_20 ?_
        refine va_bald (D := D) (i := (V6 6 6)) hx hb hK hP 7 0 rfl rfl (i_in (a := ((V6 6 6)).toInt) rfl (by (first | exact om_fe2d53c3c384 r1.2 r2.1 klp7_0.1 xlp7_1 f27 | omega))) dX9_cutNumber_23 ?_
        refine g_top (v := (V 10 (Int32.toNatClampNeg (V6 6 6)))) (ajV6 10 (Int32.toNatClampNeg (V6 6 6)) rfl) ?_
        refine gE_int (g_runS (As := [.int (V 10 (Int32.toNatClampNeg (V6 6 6)))]) (rest := []) (wc := []) (tc := []) hx hb hml hown hg gw_self hP hD hK hS hA hnw hgk [] [] (by decide) rfl rfl (x_isDigit l D ks H.size (V 10 (Int32.toNatClampNeg (V6 6 6))) ) w249 w250 w157 w251 hdS_yX9_isDigit ⟨Nat.le_of_ble_eq_true rfl, Nat.le_of_ble_eq_true rfl⟩ rfl hl.1 rfl (Nat.le_of_ble_eq_true rfl) dX9_cutNumber_24 ⟨Nat.le_of_ble_eq_true rfl, Nat.le_of_ble_eq_true rfl⟩) hP hD hK hS hA (fun z28 u29 H locs w30 hP hD hK hS => ?_)
        have rgz28 := w30
        have rgz28 : 0 ≤ z28.toInt ∧ z28.toInt ≤ 1 := rgz28
        refine lv_if_eq (tgt := 77) hx hb dX9_cutNumber_27 (by decide) (fun c31 => ?_) (fun c31 => ?_)
        · skip
          have f32 : z28.toInt = 0 := b_eq rfl (by decide) c31
          refine lv_aload_n hx hb dX9_cutNumber_77 rfl (lv_at hl 2 rfl) ?_
          refine va_get (D := D) (ci := 9) (v := .ref (ad 9)) (fs := (xfTape ad V6 L Z)) (C := RX9) (T := TX9) (N := 12) hx hb hg inX9 hown hK hP 6 xgTape rfl 2 (by decide) (hg _ w254) (fun _ h9 => h9) rfl dX9_cutNumber_78 ?_
          refine lv_aload_n hx hb dX9_cutNumber_81 rfl (lv_at hl 2 rfl) ?_
          refine va_get (D := D) (ci := 9) (v := .int (V6 6 7)) (fs := (xfTape ad V6 L Z)) (C := RX9) (T := TX9) (N := 12) hx hb hg inX9 hown hK hP 6 xgTape rfl 7 (by decide) (hg _ w260) (fun _ h9 => h9) rfl dX9_cutNumber_82 ?_
          refine g_top (v := (V 6 7)) (ajV6 6 7 rfl) ?_
          refine lv_iload_n hx hb dX9_cutNumber_85 rfl (lv_at hl 1 rfl) ?_
          refine lv_bipush (v := 9) hx hb dX9_cutNumber_86 (by decide) ?_
          refine lv_icmp_le (tgt := 95) hx hb dX9_cutNumber_88 (by decide) (fun c33 => ?_) (fun c33 => ?_)
          · skip
            have f34 : y5.toInt ≤ 9 := b_le rfl (by decide) c33
            refine lv_iconst (v := 2) hx hb dX9_cutNumber_95 (by decide) ?_
            refine va_iast (D := D) (i := (V 6 7)) (x := 2) hx hb hK hP hD hS 9 2 rfl rfl (i_in (a := ((V 6 7)).toInt) rfl (by (first | exact om_d7f25fda8b0e r3.1 r3.2 | omega))) dX9_cutNumber_96 (fun H locs hP hD hS => ?_)
            obtain ⟨V35, hV35⟩ : ∃ z, z = up2 V6 12 (Int32.toNatClampNeg (V 6 7)) 2 := ⟨_, rfl⟩
            have ew36 : (xw ad kk V6 L Z).set 9 ((ad 9), .inl ((kk 9), 4001, .inl (upd (V6 12) (Int32.toNatClampNeg (V 6 7)) 2))) = xw ad kk V35 L Z := by rw [hV35]; exact xw_ss (by decide) rfl (xb_si (by decide))
            have hP : va_P D vwCl (xw ad kk V35 L Z) H := by rw [← ew36]; exact hP
            have hD : va_D A (xw ad kk V35 L Z) := by rw [← ew36]; exact hD
            have hMV35 : rgd bX V35 := hMV6.put hV35 (i_full _)
            have agV35 : agr [(6, 6)] [12, 14] V V35 := agV6.up hV35 rfl
            refine lv_aload_n hx hb dX9_cutNumber_97 rfl (lv_at hl 2 rfl) ?_
            refine va_get (D := D) (ci := 9) (v := .ref (ad 11)) (fs := (xfTape ad V35 L Z)) (C := RX9) (T := TX9) (N := 12) hx hb hg inX9 hown hK hP 6 xgTape rfl 4 (by decide) (hg _ w256) (fun _ h9 => h9) rfl dX9_cutNumber_98 ?_
            refine lv_aload_n hx hb dX9_cutNumber_101 rfl (lv_at hl 2 rfl) ?_
            refine va_get (D := D) (ci := 9) (v := .int (V35 6 7)) (fs := (xfTape ad V35 L Z)) (C := RX9) (T := TX9) (N := 12) hx hb hg inX9 hown hK hP 6 xgTape rfl 7 (by decide) (hg _ w260) (fun _ h9 => h9) rfl dX9_cutNumber_102 ?_
            refine g_top (v := (V 6 7)) ((up2_o hV35 (by decide)).trans (ajV6 6 7 rfl)) ?_
            refine lv_lload_n hx hb dX9_cutNumber_105 rfl (lv_at hl 0 rfl) ?_
            refine va_last (D := D) (i := (V 6 7)) (x := y4) hx hb hK hP hD hS 11 4 rfl rfl (i_in (a := ((V 6 7)).toInt) rfl (by (first | exact om_d7f25fda8b0e r3.1 r3.2 | omega))) dX9_cutNumber_106 (fun H locs hP hD hS => ?_)
            obtain ⟨L37, hL37⟩ : ∃ z, z = upL L 14 (Int32.toNatClampNeg (V 6 7)) y4 := ⟨_, rfl⟩
            have ew38 : (xw ad kk V35 L Z).set 11 ((ad 11), .inl ((kk 11), 4001, .inr (.inl (vp_updL (L 14) (Int32.toNatClampNeg (V 6 7)) y4)))) = xw ad kk V35 L37 Z := by rw [hL37]; exact xw_ss (by decide) rfl (fun j => xe_L (fun a => absurd a.1 (by decide)))
            have hP : va_P D vwCl (xw ad kk V35 L37 Z) H := by rw [← ew38]; exact hP
            have hD : va_D A (xw ad kk V35 L37 Z) := by rw [← ew38]; exact hD
            have alL37 : agL [14] L L37 := agL.up alL hL37 rfl
            have pq39 : (V35 6 6).toInt = ((V6 6 6)).toInt := congrArg Int32.toInt (up2_o hV35 (by decide))
            have pq40 : (V35 6 5).toInt = ((V 6 5)).toInt := congrArg Int32.toInt ((up2_o hV35 (by decide)).trans (ajV6 6 5 rfl))
            exact W.vret hx hb hr (fun t ht hW => ⟨⟨(V35, L37), rfl, ⟨hMV35, agV35, alL37, (show (V35 6 6).toInt ≤ (V 6 5).toInt from by (first | exact om_8bafb22e6d91 f27 pq39 | omega)), (show (V 6 6).toInt ≤ (V35 6 6).toInt from by (first | exact om_f7ad29eb57d9 klp7_0.1 xlp7_1 pq39 | omega))⟩, by rw [ht]; exact hP, va_K.moved hW.alike hK, hD⟩, hS.F ht⟩) hS.2.2 dX9_cutNumber_107
          · skip
            have f41 : 9 < y5.toInt := b_nle rfl (by decide) c33
            refine lv_iconst (v := 1) hx hb dX9_cutNumber_91 (by decide) ?_
            refine lv_goto (tgt := 96) hx hb dX9_cutNumber_92 (by decide) ?_
            refine va_iast (D := D) (i := (V 6 7)) (x := 1) hx hb hK hP hD hS 9 2 rfl rfl (i_in (a := ((V 6 7)).toInt) rfl (by (first | exact om_d7f25fda8b0e r3.1 r3.2 | omega))) dX9_cutNumber_96 (fun H locs hP hD hS => ?_)
            obtain ⟨V42, hV42⟩ : ∃ z, z = up2 V6 12 (Int32.toNatClampNeg (V 6 7)) 1 := ⟨_, rfl⟩
            have ew43 : (xw ad kk V6 L Z).set 9 ((ad 9), .inl ((kk 9), 4001, .inl (upd (V6 12) (Int32.toNatClampNeg (V 6 7)) 1))) = xw ad kk V42 L Z := by rw [hV42]; exact xw_ss (by decide) rfl (xb_si (by decide))
            have hP : va_P D vwCl (xw ad kk V42 L Z) H := by rw [← ew43]; exact hP
            have hD : va_D A (xw ad kk V42 L Z) := by rw [← ew43]; exact hD
            have hMV42 : rgd bX V42 := hMV6.put hV42 (i_full _)
            have agV42 : agr [(6, 6)] [12, 14] V V42 := agV6.up hV42 rfl
            refine lv_aload_n hx hb dX9_cutNumber_97 rfl (lv_at hl 2 rfl) ?_
            refine va_get (D := D) (ci := 9) (v := .ref (ad 11)) (fs := (xfTape ad V42 L Z)) (C := RX9) (T := TX9) (N := 12) hx hb hg inX9 hown hK hP 6 xgTape rfl 4 (by decide) (hg _ w256) (fun _ h9 => h9) rfl dX9_cutNumber_98 ?_
            refine lv_aload_n hx hb dX9_cutNumber_101 rfl (lv_at hl 2 rfl) ?_
            refine va_get (D := D) (ci := 9) (v := .int (V42 6 7)) (fs := (xfTape ad V42 L Z)) (C := RX9) (T := TX9) (N := 12) hx hb hg inX9 hown hK hP 6 xgTape rfl 7 (by decide) (hg _ w260) (fun _ h9 => h9) rfl dX9_cutNumber_102 ?_
            refine g_top (v := (V 6 7)) ((up2_o hV42 (by decide)).trans (ajV6 6 7 rfl)) ?_
            refine lv_lload_n hx hb dX9_cutNumber_105 rfl (lv_at hl 0 rfl) ?_
            refine va_last (D := D) (i := (V 6 7)) (x := y4) hx hb hK hP hD hS 11 4 rfl rfl (i_in (a := ((V 6 7)).toInt) rfl (by (first | exact om_d7f25fda8b0e r3.1 r3.2 | omega))) dX9_cutNumber_106 (fun H locs hP hD hS => ?_)
            obtain ⟨L44, hL44⟩ : ∃ z, z = upL L 14 (Int32.toNatClampNeg (V 6 7)) y4 := ⟨_, rfl⟩
            have ew45 : (xw ad kk V42 L Z).set 11 ((ad 11), .inl ((kk 11), 4001, .inr (.inl (vp_updL (L 14) (Int32.toNatClampNeg (V 6 7)) y4)))) = xw ad kk V42 L44 Z := by rw [hL44]; exact xw_ss (by decide) rfl (fun j => xe_L (fun a => absurd a.1 (by decide)))
            have hP : va_P D vwCl (xw ad kk V42 L44 Z) H := by rw [← ew45]; exact hP
            have hD : va_D A (xw ad kk V42 L44 Z) := by rw [← ew45]; exact hD
            have alL44 : agL [14] L L44 := agL.up alL hL44 rfl
            have pq46 : (V42 6 6).toInt = ((V6 6 6)).toInt := congrArg Int32.toInt (up2_o hV42 (by decide))
            have pq47 : (V42 6 5).toInt = ((V 6 5)).toInt := congrArg Int32.toInt ((up2_o hV42 (by decide)).trans (ajV6 6 5 rfl))
            exact W.vret hx hb hr (fun t ht hW => ⟨⟨(V42, L44), rfl, ⟨hMV42, agV42, alL44, (show (V42 6 6).toInt ≤ (V 6 5).toInt from by (first | exact om_8bafb22e6d91 f27 pq46 | omega)), (show (V 6 6).toInt ≤ (V42 6 6).toInt from by (first | exact om_8201745062d7 xlp7_1 f41 pq46 | omega))⟩, by rw [ht]; exact hP, va_K.moved hW.alike hK, hD⟩, hS.F ht⟩) hS.2.2 dX9_cutNumber_107
        · skip
          have f48 : z28.toInt ≠ 0 := b_neq rfl (by decide) c31
          refine lv_iload_n hx hb dX9_cutNumber_30 rfl (lv_at hl 1 rfl) ?_
          refine lv_bipush (v := 9) hx hb dX9_cutNumber_31 (by decide) ?_
          refine lv_icmp_ge (tgt := 59) hx hb dX9_cutNumber_33 (by decide) (fun c49 => ?_) (fun c49 => ?_)
          · skip
            have f50 : 9 ≤ y5.toInt := b_le (by decide) rfl c49
            refine lv_lconst (v := 0) hx hb dX9_cutNumber_59 (by decide) ?_
            refine lv_lstore_n (lv' := [(2, .long 0), (1, .int y5), (0, .ref (ad 6))]) hx hb dX9_cutNumber_60 rfl hl (by decide) rfl (fun ls hl => ?_)
            obtain ⟨z51, ez51⟩ : ∃ y : Int32, y = y5 + 1 := ⟨_, rfl⟩
            have hz51 : z51.toInt = y5.toInt + 1 := i_add ez51 rfl (by decide) (by (first | exact om_2bd216318aa2 r1.2 r2.1 xlp7_1 f27 f50 | omega))
            refine lv_iinc (v := z51) (lv' := [(1, .int z51), (2, .long 0), (0, .ref (ad 6))]) hx hb dX9_cutNumber_61 hl (k := 1) rfl (by rw [ez51]; rfl) (by decide) rfl (fun ls hl => ?_)
            refine lv_aload_n hx hb dX9_cutNumber_64 rfl (lv_at hl 2 rfl) ?_
            refine lv_dup hx hb dX9_cutNumber_65 rfl ?_
            refine va_get (D := D) (ci := 9) (v := .int (V6 6 6)) (fs := (xfTape ad V6 L Z)) (C := RX9) (T := TX9) (N := 12) hx hb hg inX9 hown hK hP 6 xgTape rfl 6 (by decide) (hg _ w259) (fun _ h9 => h9) rfl dX9_cutNumber_66 ?_
            refine lv_iconst (v := 1) hx hb dX9_cutNumber_69 (by decide) ?_
            refine lv_iadd hx hb dX9_cutNumber_70 ?_
            refine lv_topi (fun z52 ez52 => ?_)
            have hz52 : z52.toInt = ((V6 6 6)).toInt + 1 := i_add ez52 rfl (by decide) (by (first | exact om_0af9c8bac061 r1.2 r2.1 xlp7_1 f27 f50 | omega))
            refine va_put (D := D) (ci := 9) (v := .int z52) (ty := tyX9 6) (fs := (xfTape ad V6 L Z)) (C := RX9) (T := TX9) (N := 12) hx hb hg inX9 tyX9 tyX9_ok nmX9 hown hK hP hD hS 6 xgTape rfl 6 (by decide) (hg _ w259) (fun _ h9 => h9) rfl (tyX9_ok 6 (by decide)) rfl rfl (Nat.le_of_ble_eq_true rfl) dX9_cutNumber_71 (fun H locs hP hD hS => ?_)
            obtain ⟨V53, hV53⟩ : ∃ z, z = up2 V6 6 6 z52 := ⟨_, rfl⟩
            have ew54 : (xw ad kk V6 L Z).set 6 ((ad 6), .inr (9, (xfTape ad V6 L Z).set 6 (.int z52))) = xw ad kk V53 L Z := by rw [hV53]; exact xw_ss (by decide) rfl (xb_si (by decide))
            have hP : va_P D vwCl (xw ad kk V53 L Z) H := by rw [← ew54]; exact hP
            have hD : va_D A (xw ad kk V53 L Z) := by rw [← ew54]; exact hD
            have hMV53 : rgd bX V53 := hMV6.put hV53 (show 0 ≤ z52.toInt ∧ z52.toInt ≤ 4000 from by (first | exact om_5132599afa3b r1.2 r2.1 xlp7_1 f27 f50 hz52 | omega))
            have agV53 : agr [(6, 6)] [12, 14] V V53 := agV6.up hV53 rfl
            refine lv_goto (tgt := 4) hx hb dX9_cutNumber_74 (by decide) ?_
            have pq55 : (V53 6 5).toInt = ((V 6 5)).toInt := congrArg Int32.toInt ((up2_k hV53 (by decide)).trans (ajV6 6 5 rfl))
            have pq56 : (V53 6 6).toInt = z52.toInt := congrArg Int32.toInt (up2_s hV53)
            exact ihlp7 0 z51 V53 H locs ls (by (first | exact om_4cb4755f0960 r1.2 r2.1 xlp7_1 f27 f50 hz51 | omega)) (show (V53 6 6).toInt ≤ (V53 6 5).toInt from by (first | exact om_1257dc0753d6 f27 hz52 pq55 pq56 | omega)) (show (V 6 6).toInt + z51.toInt = (V53 6 6).toInt from by (first | exact om_662a1892167c xlp7_1 hz51 hz52 pq56 | omega)) (by (first | exact om_91b464413286 hn pq8 hz52 pq55 pq56 | omega)) (agr.up (agr.tr agr.rf ajV6 (by decide) (by decide)) hV53 rfl) hMV53 hP hD hS (lv_sub hl [1, 0, 2] rfl)
          · skip
            have f57 : y5.toInt < 9 := b_nle (by decide) rfl c49
            refine lv_lload_n hx hb dX9_cutNumber_36 rfl (lv_at hl 0 rfl) ?_
            refine lv_ldc2 (v := 10) hx hb hown (hg _ w778) dX9_cutNumber_37 ?_
            refine lv_lmul hx hb dX9_cutNumber_40 ?_
            refine lv_topl (fun w58 ew58 => ?_)
            refine lv_aload_n hx hb dX9_cutNumber_41 rfl (lv_at hl 2 rfl) ?_
            refine va_get (D := D) (ci := 9) (v := .ref (ad 7)) (fs := (xfTape ad V6 L Z)) (C := RX9) (T := TX9) (N := 12) hx hb hg inX9 hown hK hP 6 xgTape rfl 0 (by decide) (hg _ w252) (fun _ h9 => h9) rfl dX9_cutNumber_42 ?_
            refine lv_aload_n hx hb dX9_cutNumber_45 rfl (lv_at hl 2 rfl) ?_
            refine va_get (D := D) (ci := 9) (v := .int (V6 6 6)) (fs := (xfTape ad V6 L Z)) (C := RX9) (T := TX9) (N := 12) hx hb hg inX9 hown hK hP 6 xgTape rfl 6 (by decide) (hg _ w259) (fun _ h9 => h9) rfl dX9_cutNumber_46 ?_
            refine va_bald (D := D) (i := (V6 6 6)) hx hb hK hP 7 0 rfl rfl (i_in (a := ((V6 6 6)).toInt) rfl (by (first | exact om_fe2d53c3c384 r1.2 r2.1 klp7_0.1 xlp7_1 f27 | omega))) dX9_cutNumber_49 ?_
            refine g_top (v := (V 10 (Int32.toNatClampNeg (V6 6 6)))) (ajV6 10 (Int32.toNatClampNeg (V6 6 6)) rfl) ?_
            refine lv_i2l hx hb dX9_cutNumber_50 rfl ?_
            refine lv_topl (fun w59 ew59 => ?_)
            refine lv_ladd hx hb dX9_cutNumber_51 ?_
            refine lv_topl (fun w60 ew60 => ?_)
            refine lv_ldc2 (v := 48) hx hb hown (hg _ w779) dX9_cutNumber_52 ?_
            refine lv_lsub hx hb dX9_cutNumber_55 ?_
            refine lv_topl (fun w61 ew61 => ?_)
            refine lv_goto (tgt := 60) hx hb dX9_cutNumber_56 (by decide) ?_
            refine lv_lstore_n (lv' := [(2, .long w61), (1, .int y5), (0, .ref (ad 6))]) hx hb dX9_cutNumber_60 rfl hl (by decide) rfl (fun ls hl => ?_)
            obtain ⟨z62, ez62⟩ : ∃ y : Int32, y = y5 + 1 := ⟨_, rfl⟩
            have hz62 : z62.toInt = y5.toInt + 1 := i_add ez62 rfl (by decide) (by (first | exact om_778bd2371a89 klp7_0.1 f57 | omega))
            refine lv_iinc (v := z62) (lv' := [(1, .int z62), (2, .long w61), (0, .ref (ad 6))]) hx hb dX9_cutNumber_61 hl (k := 1) rfl (by rw [ez62]; rfl) (by decide) rfl (fun ls hl => ?_)
            refine lv_aload_n hx hb dX9_cutNumber_64 rfl (lv_at hl 2 rfl) ?_
            refine lv_dup hx hb dX9_cutNumber_65 rfl ?_
            refine va_get (D := D) (ci := 9) (v := .int (V6 6 6)) (fs := (xfTape ad V6 L Z)) (C := RX9) (T := TX9) (N := 12) hx hb hg inX9 hown hK hP 6 xgTape rfl 6 (by decide) (hg _ w259) (fun _ h9 => h9) rfl dX9_cutNumber_66 ?_
            refine lv_iconst (v := 1) hx hb dX9_cutNumber_69 (by decide) ?_
            refine lv_iadd hx hb dX9_cutNumber_70 ?_
            refine lv_topi (fun z63 ez63 => ?_)
            have hz63 : z63.toInt = ((V6 6 6)).toInt + 1 := i_add ez63 rfl (by decide) (by (first | exact om_41955fcb6566 r1.2 r2.1 klp7_0.1 xlp7_1 f27 | omega))
            refine va_put (D := D) (ci := 9) (v := .int z63) (ty := tyX9 6) (fs := (xfTape ad V6 L Z)) (C := RX9) (T := TX9) (N := 12) hx hb hg inX9 tyX9 tyX9_ok nmX9 hown hK hP hD hS 6 xgTape rfl 6 (by decide) (hg _ w259) (fun _ h9 => h9) rfl (tyX9_ok 6 (by decide)) rfl rfl (Nat.le_of_ble_eq_true rfl) dX9_cutNumber_71 (fun H locs hP hD hS => ?_)
            obtain ⟨V64, hV64⟩ : ∃ z, z = up2 V6 6 6 z63 := ⟨_, rfl⟩
            have ew65 : (xw ad kk V6 L Z).set 6 ((ad 6), .inr (9, (xfTape ad V6 L Z).set 6 (.int z63))) = xw ad kk V64 L Z := by rw [hV64]; exact xw_ss (by decide) rfl (xb_si (by decide))
            have hP : va_P D vwCl (xw ad kk V64 L Z) H := by rw [← ew65]; exact hP
            have hD : va_D A (xw ad kk V64 L Z) := by rw [← ew65]; exact hD
            have hMV64 : rgd bX V64 := hMV6.put hV64 (show 0 ≤ z63.toInt ∧ z63.toInt ≤ 4000 from by (first | exact om_5bd73bff3568 r1.2 r2.1 klp7_0.1 xlp7_1 f27 hz63 | omega))
            have agV64 : agr [(6, 6)] [12, 14] V V64 := agV6.up hV64 rfl
            refine lv_goto (tgt := 4) hx hb dX9_cutNumber_74 (by decide) ?_
            have pq66 : (V64 6 5).toInt = ((V 6 5)).toInt := congrArg Int32.toInt ((up2_k hV64 (by decide)).trans (ajV6 6 5 rfl))
            have pq67 : (V64 6 6).toInt = z63.toInt := congrArg Int32.toInt (up2_s hV64)
            exact ihlp7 w61 z62 V64 H locs ls (by (first | exact om_7f7dd5977925 klp7_0.1 f57 hz62 | omega)) (show (V64 6 6).toInt ≤ (V64 6 5).toInt from by (first | exact om_1257dc0753d6 f27 hz63 pq66 pq67 | omega)) (show (V 6 6).toInt + z62.toInt = (V64 6 6).toInt from by (first | exact om_662a1892167c xlp7_1 hz62 hz63 pq67 | omega)) (by (first | exact om_91b464413286 hn pq8 hz63 pq66 pq67 | omega)) (agr.up (agr.tr agr.rf ajV6 (by decide) (by decide)) hV64 rfl) hMV64 hP hD hS (lv_sub hl [1, 0, 2] rfl)
  have r68 : Int32.toInt 0 = 0 := by decide
  exact lp7 (((V 6 5).toInt - (V 6 6).toInt + 1 : Int).toNat) 0 0 V H locs ls (by decide) (show (V 6 6).toInt ≤ (V 6 5).toInt from by (first | exact om_f4906d00fa52 y1 | omega)) (show (V 6 6).toInt + (Int32.toInt 0) = (V 6 6).toInt from by (first | exact om_85baa6bcbf4d r68 | omega)) (by (first | exact om_7441a7786481 | omega)) agr.rf hMV hP hD hS (lv_sub hl [0, 1, 2] rfl)
abbrev r_x_find : Room := { frames := 0, cells := 0, slots := 0, locals := 0 }
abbrev q_x_find (D : va_G) (ks : KS) (ad : Nat → Nat) (kk : Nat → ClassId) (V : Vf) (L : Lf) (Z : XZ) (p0 : Int64) (gn : Nat) (A : Nat → Prop) : Array Value → State → Outcome → State → Prop := va_Qi (fun (r : Int32) (_ : Unit) => ((-1) ≤ r.toInt ∧ r.toInt ≤ 23) ∧ (r.toInt < (V 43 gn).toInt)) (fun _ t => gq D A (xw ad kk V L Z) (xty kk Z) t) A
set_option maxHeartbeats 4000000 in
set_option maxRecDepth 100000 in
theorem x_find (l : Launch) (D : va_G) (ks : KS) (sz : Nat) (ad : Nat → Nat) (kk : Nat → ClassId) (V : Vf) (L : Lf) (Z : XZ) (p0 : Int64) (gn : Nat) (hMV : rgd bX V) (hgn : gn < 10)  : Met l yX6_find (Cond.code yX6_find cX6_find 4 (some .int) :: GW) r_x_find (va_Pc [.ref (ad (40 + gn)), .long p0] (gp D ks (xw ad kk V L Z) (xty kk Z) sz)) (q_x_find D ks ad kk V L Z p0 gn (va_A (xw ad kk V L Z) sz)) 0 0 (va_A (xw ad kk V L Z) sz) := by
  refine g_met (q_x_find D ks ad kk V L Z p0 gn) (by decide) (Nat.le_of_ble_eq_true rfl) ?_
  intro p e s m below meth c A ls H locs hx hb hr hml hown hg hlocks hin hnw hgk hP hK hD hS hA hl
  have hown : s.vm.findClass RX6 = some m.cls := hown
  have hl : lv_has ls 4 [(0, .ref (ad (40 + gn))), (1, .long p0)] := hl
  have hP : va_P D vwCl (xw ad kk V L Z) H := hP
  have hD : va_D A (xw ad kk V L Z) := hD
  have hK : va_K D vwCl (xty kk Z) s := hK
  refine lv_iconst (v := 0) hx hb dX6_find_0 (by decide) ?_
  refine lv_istore_n (lv' := [(3, .int 0), (0, .ref (ad (40 + gn))), (1, .long p0)]) hx hb dX6_find_1 rfl hl (by decide) rfl (fun ls hl => ?_)
  have lp2 : ∀ (fulp2 : Nat) (y1 : Int32) (H : Heap) (locs : List Loc) (ls : Array Slot), 0 ≤ y1.toInt ∧ y1.toInt ≤ 24 → y1.toInt ≤ (V 43 gn).toInt → 24 - y1.toInt < (fulp2 : Int) → va_P D vwCl (xw ad kk V L Z) H → va_D A (xw ad kk V L Z) → va_S A s.heap H locs → lv_has ls 4 [(3, .int y1), (0, .ref (ad (40 + gn))), (1, .long p0)] → W p l e r_x_find s m ([.ref (ad (40 + gn)), .long p0] : List Value).toArray below meth c H locs 0 0 (MQ below (q_x_find D ks ad kk V L Z p0 gn A) ([.ref (ad (40 + gn)), .long p0] : List Value).toArray s 0 0 A) (F0 m 2 ls []) := by
    intro fulp2
    induction fulp2 with
    | zero =>
      intro y1 H locs ls klp2_0 xlp2_0 hn  hP hD hS hl
      exfalso; (first | exact om_9386ef0df612 klp2_0.2 hn | omega)
    | succ fulp2 ihlp2 =>
      intro y1 H locs ls klp2_0 xlp2_0 hn  hP hD hS hl
      have r3 : 0 ≤ ((V 43 gn)).toInt ∧ ((V 43 gn)).toInt ≤ ((xcap gn : Nat) : Int) := hMV 43 gn
      have r4 := xcap_le gn
      refine lv_iload_n hx hb dX6_find_2 rfl (lv_at hl 0 rfl) ?_
      refine lv_aload_n hx hb dX6_find_3 rfl (lv_at hl 1 rfl) ?_
      refine va_get (D := D) (ci := 6) (v := .int (V 43 gn)) (fs := (xfNames ad V gn)) (C := RX6) (T := TX6) (N := 2) hx hb hg inX6 hown hK hP (40 + gn) (xgNames hgn) rfl 1 (by decide) (hg _ w480) (fun _ h9 => h9) rfl dX6_find_4 ?_
      refine lv_icmp_ge (tgt := 29) hx hb dX6_find_7 (by decide) (fun c5 => ?_) (fun c5 => ?_)
      · skip
        have f6 : ((V 43 gn)).toInt ≤ y1.toInt := b_le rfl rfl c5
        refine lv_iconst (v := (-1)) hx hb dX6_find_29 (by decide) ?_
        exact W.iret (v := (-1)) hx hb hr (fun t ht hW => ⟨⟨(-1), (), rfl, ⟨(by decide), (show (-1) < (V 43 gn).toInt from by (first | exact om_550cdc110816 r3.1 | omega))⟩, by rw [ht]; exact hP, va_K.moved hW.alike hK, hD⟩, hS.F ht⟩) hS.2.2 dX6_find_30
      · skip
        have f7 : y1.toInt < ((V 43 gn)).toInt := b_nle rfl rfl c5
        refine lv_aload_n hx hb dX6_find_10 rfl (lv_at hl 1 rfl) ?_
        refine va_get (D := D) (ci := 6) (v := .ref (ad (50 + gn))) (fs := (xfNames ad V gn)) (C := RX6) (T := TX6) (N := 2) hx hb hg inX6 hown hK hP (40 + gn) (xgNames hgn) rfl 0 (by decide) (hg _ w479) (fun _ h9 => h9) rfl dX6_find_11 ?_
        refine lv_iload_n hx hb dX6_find_14 rfl (lv_at hl 0 rfl) ?_
        refine va_lald (D := D) (i := y1) hx hb hK hP (50 + gn) (43 + gn) (xgwords hgn) (xtwords hgn) (i_in (a := y1.toInt) rfl (by omega)) dX6_find_15 ?_
        have kc8 := i_clamp (x := y1) rfl (by (first | exact om_eafa9039069c klp2_0.1 | omega))
        refine g_topv (v := .long (L 44 (24 * gn + (Int32.toNatClampNeg y1)))) (congrArg Value.long (if_pos (by omega))) ?_
        refine lv_topl (fun w9 ew9 => ?_)
        refine lv_lload_n hx hb dX6_find_16 rfl (lv_at hl 2 rfl) ?_
        refine W.lcmp hx hb dX6_find_17 ?_
        refine lv_topi (fun z10 ez10 => ?_)
        have hz10 : -1 ≤ z10.toInt ∧ z10.toInt ≤ 1 := lcmp_r ez10
        refine lv_if_ne (tgt := 23) hx hb dX6_find_18 (by decide) (fun c11 => ?_) (fun c11 => ?_)
        · skip
          have f12 : z10.toInt ≠ 0 := b_neq rfl (by decide) c11
          obtain ⟨z13, ez13⟩ : ∃ y : Int32, y = y1 + 1 := ⟨_, rfl⟩
          have hz13 : z13.toInt = y1.toInt + 1 := i_add ez13 rfl (by decide) (by (first | exact om_e66fa98a5d27 klp2_0.1 klp2_0.2 | omega))
          refine lv_iinc (v := z13) (lv' := [(3, .int z13), (0, .ref (ad (40 + gn))), (1, .long p0)]) hx hb dX6_find_23 hl (k := 0) rfl (by rw [ez13]; rfl) (by decide) rfl (fun ls hl => ?_)
          refine lv_goto (tgt := 2) hx hb dX6_find_26 (by decide) ?_
          exact ihlp2 z13 H locs ls (by (first | exact om_e490a8b17553 klp2_0.1 r3.2 r4.2 f7 hz13 | omega)) (show z13.toInt ≤ (V 43 gn).toInt from by (first | exact om_7fe9249fc074 f7 hz13 | omega)) (by (first | exact om_9592d9319ffa hn hz13 | omega)) hP hD hS (lv_sub hl [0, 1, 2] rfl)
        · skip
          have f14 : z10.toInt = 0 := b_eq rfl (by decide) c11
          refine lv_iload_n hx hb dX6_find_21 rfl (lv_at hl 0 rfl) ?_
          exact W.iret (v := y1) hx hb hr (fun t ht hW => ⟨⟨y1, (), rfl, ⟨(show (-1) ≤ y1.toInt ∧ y1.toInt ≤ 23 from by (first | exact om_38bc297cb60f klp2_0.1 r3.2 r4.2 f7 | omega)), (show y1.toInt < (V 43 gn).toInt from by (first | exact om_0e9116797efb f7 | omega))⟩, by rw [ht]; exact hP, va_K.moved hW.alike hK, hD⟩, hS.F ht⟩) hS.2.2 dX6_find_22
  have r15 : Int32.toInt 0 = 0 := by decide
  have r16 : 0 ≤ ((V 43 gn)).toInt ∧ ((V 43 gn)).toInt ≤ ((xcap gn : Nat) : Int) := hMV 43 gn
  have r17 := xcap_le gn
  exact lp2 ((24 - (Int32.toInt 0) + 1 : Int).toNat) 0 H locs ls (by decide) (show (Int32.toInt 0) ≤ (V 43 gn).toInt from by (first | exact om_a51dc5ad8918 r15 r16.1 | omega)) (by (first | exact om_817980d3aa47 | omega)) hP hD hS (lv_sub hl [0, 1, 2] rfl)
abbrev r_x_isFull : Room := { frames := 0, cells := 0, slots := 0, locals := 0 }
abbrev q_x_isFull (D : va_G) (ks : KS) (ad : Nat → Nat) (kk : Nat → ClassId) (V : Vf) (L : Lf) (Z : XZ) (gn : Nat) (A : Nat → Prop) : Array Value → State → Outcome → State → Prop := va_Qi (fun (r : Int32) (_ : Unit) => (0 ≤ r.toInt ∧ r.toInt ≤ 1) ∧ (Imp (r.toInt = 0) ((V 43 gn).toInt < ((xcap gn : Nat) : Int)))) (fun _ t => gq D A (xw ad kk V L Z) (xty kk Z) t) A
set_option maxHeartbeats 4000000 in
set_option maxRecDepth 100000 in
theorem x_isFull (l : Launch) (D : va_G) (ks : KS) (sz : Nat) (ad : Nat → Nat) (kk : Nat → ClassId) (V : Vf) (L : Lf) (Z : XZ) (gn : Nat) (hMV : rgd bX V) (hgn : gn < 10)  : Met l yX6_isFull (Cond.code yX6_isFull cX6_isFull 1 (some .boolean) :: GW) r_x_isFull (va_Pc [.ref (ad (40 + gn))] (gp D ks (xw ad kk V L Z) (xty kk Z) sz)) (q_x_isFull D ks ad kk V L Z  gn (va_A (xw ad kk V L Z) sz)) 0 0 (va_A (xw ad kk V L Z) sz) := by
  refine g_met (q_x_isFull D ks ad kk V L Z  gn) (by decide) (Nat.le_of_ble_eq_true rfl) ?_
  intro p e s m below meth c A ls H locs hx hb hr hml hown hg hlocks hin hnw hgk hP hK hD hS hA hl
  have hown : s.vm.findClass RX6 = some m.cls := hown
  have hl : lv_has ls 1 [(0, .ref (ad (40 + gn)))] := hl
  have hP : va_P D vwCl (xw ad kk V L Z) H := hP
  have hD : va_D A (xw ad kk V L Z) := hD
  have hK : va_K D vwCl (xty kk Z) s := hK
  refine lv_aload_n hx hb dX6_isFull_0 rfl (lv_at hl 0 rfl) ?_
  refine va_get (D := D) (ci := 6) (v := .int (V 43 gn)) (fs := (xfNames ad V gn)) (C := RX6) (T := TX6) (N := 2) hx hb hg inX6 hown hK hP (40 + gn) (xgNames hgn) rfl 1 (by decide) (hg _ w480) (fun _ h9 => h9) rfl dX6_isFull_1 ?_
  have r1 : 0 ≤ ((V 43 gn)).toInt ∧ ((V 43 gn)).toInt ≤ ((xcap gn : Nat) : Int) := hMV 43 gn
  have r2 := xcap_le gn
  refine lv_aload_n hx hb dX6_isFull_4 rfl (lv_at hl 0 rfl) ?_
  refine va_get (D := D) (ci := 6) (v := .ref (ad (50 + gn))) (fs := (xfNames ad V gn)) (C := RX6) (T := TX6) (N := 2) hx hb hg inX6 hown hK hP (40 + gn) (xgNames hgn) rfl 0 (by decide) (hg _ w479) (fun _ h9 => h9) rfl dX6_isFull_5 ?_
  refine va_alen (D := D) (v := nI (xcap gn)) hx hb hK hP (50 + gn) (43 + gn) (xgwords hgn) (xtwords hgn) rfl dX6_isFull_8 ?_
  refine lv_topi (fun z4 ez4 => ?_)
  have r5 : z4.toInt = ((xcap gn : Nat) : Int) := by rw [ez4]; exact nI_toInt (by omega)
  refine lv_icmp_lt (tgt := 16) hx hb dX6_isFull_9 (by decide) (fun c6 => ?_) (fun c6 => ?_)
  · skip
    have f7 : ((V 43 gn)).toInt < z4.toInt := b_lt rfl rfl c6
    refine lv_iconst (v := 0) hx hb dX6_isFull_16 (by decide) ?_
    exact W.zret (v := 0) hx hb hr rfl (fun t ht hW => ⟨⟨0, (), rfl, ⟨(by decide), (Imp.mk (fun _ => (show (V 43 gn).toInt < ((xcap gn : Nat) : Int) from by (first | exact om_74393bacf057 r5 f7 | omega))))⟩, by rw [ht]; exact hP, va_K.moved hW.alike hK, hD⟩, hS.F ht⟩) hS.2.2 dX6_isFull_17
  · skip
    have f8 : z4.toInt ≤ ((V 43 gn)).toInt := b_nlt rfl rfl c6
    refine lv_iconst (v := 1) hx hb dX6_isFull_12 (by decide) ?_
    refine lv_goto (tgt := 17) hx hb dX6_isFull_13 (by decide) ?_
    exact W.zret (v := 1) hx hb hr rfl (fun t ht hW => ⟨⟨1, (), rfl, ⟨(by decide), (Imp.mk (fun hp => absurd hp (by decide)))⟩, by rw [ht]; exact hP, va_K.moved hW.alike hK, hD⟩, hS.F ht⟩) hS.2.2 dX6_isFull_17
abbrev r_x_add : Room := { frames := 0, cells := 0, slots := 0, locals := 0 }
abbrev q_x_add (D : va_G) (ks : KS) (ad : Nat → Nat) (kk : Nat → ClassId) (V : Vf) (L : Lf) (Z : XZ) (p0 : Int64) (gn : Nat) (A : Nat → Prop) : Array Value → State → Outcome → State → Prop := va_Qi (fun (r : Int32) (u : Vf × Lf) => rgd bX u.1 ∧ agr [] [43, 44] V u.1 ∧ agL [44] L u.2 ∧ frX (xN gn) V u.1 ∧ ((-1) ≤ r.toInt ∧ r.toInt ≤ 23) ∧ (r.toInt < (u.1 43 gn).toInt) ∧ (Imp ((V 43 gn).toInt < ((xcap gn : Nat) : Int)) (r.toInt = (V 43 gn).toInt ∧ (u.1 43 gn).toInt = (V 43 gn).toInt + 1)) ∧ ((∀ n : Nat, ¬ n = gn → u.1 43 n = V 43 n))) (fun u t => gq D A (xw ad kk u.1 u.2 Z) (xty kk Z) t) A
set_option maxHeartbeats 4000000 in
set_option maxRecDepth 100000 in
theorem x_add (l : Launch) (D : va_G) (ks : KS) (sz : Nat) (ad : Nat → Nat) (kk : Nat → ClassId) (V : Vf) (L : Lf) (Z : XZ) (p0 : Int64) (gn : Nat) (hMV : rgd bX V) (hgn : gn < 10)  : Met l yX6_add (Cond.code yX6_add cX6_add 3 (some .int) :: GW) r_x_add (va_Pc [.ref (ad (40 + gn)), .long p0] (gp D ks (xw ad kk V L Z) (xty kk Z) sz)) (q_x_add D ks ad kk V L Z p0 gn (va_A (xw ad kk V L Z) sz)) 0 0 (va_A (xw ad kk V L Z) sz) := by
  refine g_met (q_x_add D ks ad kk V L Z p0 gn) (by decide) (Nat.le_of_ble_eq_true rfl) ?_
  intro p e s m below meth c A ls H locs hx hb hr hml hown hg hlocks hin hnw hgk hP hK hD hS hA hl
  have hown : s.vm.findClass RX6 = some m.cls := hown
  have hl : lv_has ls 3 [(0, .ref (ad (40 + gn))), (1, .long p0)] := hl
  have hP : va_P D vwCl (xw ad kk V L Z) H := hP
  have hD : va_D A (xw ad kk V L Z) := hD
  have hK : va_K D vwCl (xty kk Z) s := hK
  have agV : agr [] [43, 44] V V := agr.rf
  have alL : agL [44] L L := agL.rf
  have fwV : frX (xN gn) V V := frX.rf
  refine lv_aload_n hx hb dX6_add_0 rfl (lv_at hl 0 rfl) ?_
  refine va_get (D := D) (ci := 6) (v := .int (V 43 gn)) (fs := (xfNames ad V gn)) (C := RX6) (T := TX6) (N := 2) hx hb hg inX6 hown hK hP (40 + gn) (xgNames hgn) rfl 1 (by decide) (hg _ w480) (fun _ h9 => h9) rfl dX6_add_1 ?_
  have r1 : 0 ≤ ((V 43 gn)).toInt ∧ ((V 43 gn)).toInt ≤ ((xcap gn : Nat) : Int) := hMV 43 gn
  have r2 := xcap_le gn
  refine lv_aload_n hx hb dX6_add_4 rfl (lv_at hl 0 rfl) ?_
  refine va_get (D := D) (ci := 6) (v := .ref (ad (50 + gn))) (fs := (xfNames ad V gn)) (C := RX6) (T := TX6) (N := 2) hx hb hg inX6 hown hK hP (40 + gn) (xgNames hgn) rfl 0 (by decide) (hg _ w479) (fun _ h9 => h9) rfl dX6_add_5 ?_
  refine va_alen (D := D) (v := nI (xcap gn)) hx hb hK hP (50 + gn) (43 + gn) (xgwords hgn) (xtwords hgn) rfl dX6_add_8 ?_
  refine lv_topi (fun z4 ez4 => ?_)
  have r5 : z4.toInt = ((xcap gn : Nat) : Int) := by rw [ez4]; exact nI_toInt (by omega)
  refine lv_icmp_lt (tgt := 14) hx hb dX6_add_9 (by decide) (fun c6 => ?_) (fun c6 => ?_)
  · skip
    have f7 : ((V 43 gn)).toInt < z4.toInt := b_lt rfl rfl c6
    refine lv_aload_n hx hb dX6_add_14 rfl (lv_at hl 0 rfl) ?_
    refine va_get (D := D) (ci := 6) (v := .ref (ad (50 + gn))) (fs := (xfNames ad V gn)) (C := RX6) (T := TX6) (N := 2) hx hb hg inX6 hown hK hP (40 + gn) (xgNames hgn) rfl 0 (by decide) (hg _ w479) (fun _ h9 => h9) rfl dX6_add_15 ?_
    refine lv_aload_n hx hb dX6_add_18 rfl (lv_at hl 0 rfl) ?_
    refine va_get (D := D) (ci := 6) (v := .int (V 43 gn)) (fs := (xfNames ad V gn)) (C := RX6) (T := TX6) (N := 2) hx hb hg inX6 hown hK hP (40 + gn) (xgNames hgn) rfl 1 (by decide) (hg _ w480) (fun _ h9 => h9) rfl dX6_add_19 ?_
    refine lv_lload_n hx hb dX6_add_22 rfl (lv_at hl 1 rfl) ?_
    refine va_last (D := D) (i := (V 43 gn)) (x := p0) hx hb hK hP hD hS (50 + gn) (43 + gn) (xgwords hgn) (xtwords hgn) (i_in (a := ((V 43 gn)).toInt) rfl (by omega)) dX6_add_23 (fun H locs hP hD hS => ?_)
    have kc8 := i_clamp (x := (V 43 gn)) rfl (by (first | exact om_eafa9039069c r1.1 | omega))
    have kl9 : (Int32.toNatClampNeg (V 43 gn)) < 24 := by (first | exact om_c4cfbb9c595c r2.2 r5 f7 kc8 | omega)
    obtain ⟨L10, hL10⟩ : ∃ z, z = upL L 44 (24 * gn + (Int32.toNatClampNeg (V 43 gn))) p0 := ⟨_, rfl⟩
    have ew11 : (xw ad kk V L Z).set (50 + gn) ((ad (50 + gn)), .inl ((kk (50 + gn)), xcap gn, .inr (.inl (vp_updL (fun q => if q < 24 then L 44 (24 * gn + q) else 0) (Int32.toNatClampNeg (V 43 gn)) p0)))) = xw ad kk V L10 Z := by rw [hL10]; exact xpwords hgn kl9
    have hP : va_P D vwCl (xw ad kk V L10 Z) H := by rw [← ew11]; exact hP
    have hD : va_D A (xw ad kk V L10 Z) := by rw [← ew11]; exact hD
    have alL10 : agL [44] L L10 := agL.up alL hL10 rfl
    refine lv_aload_n hx hb dX6_add_24 rfl (lv_at hl 0 rfl) ?_
    refine lv_dup hx hb dX6_add_25 rfl ?_
    refine va_get (D := D) (ci := 6) (v := .int (V 43 gn)) (fs := (xfNames ad V gn)) (C := RX6) (T := TX6) (N := 2) hx hb hg inX6 hown hK hP (40 + gn) (xgNames hgn) rfl 1 (by decide) (hg _ w480) (fun _ h9 => h9) rfl dX6_add_26 ?_
    refine lv_dup_x1 hx hb dX6_add_29 rfl rfl ?_
    refine lv_iconst (v := 1) hx hb dX6_add_30 (by decide) ?_
    refine lv_iadd hx hb dX6_add_31 ?_
    refine lv_topi (fun z12 ez12 => ?_)
    have hz12 : z12.toInt = ((V 43 gn)).toInt + 1 := i_add ez12 rfl (by decide) (by (first | exact om_3cef7ac10bbb r1.1 kc8 kl9 | omega))
    refine va_put (D := D) (ci := 6) (v := .int z12) (ty := tyX6 1) (fs := (xfNames ad V gn)) (C := RX6) (T := TX6) (N := 2) hx hb hg inX6 tyX6 tyX6_ok nmX6 hown hK hP hD hS (40 + gn) (xgNames hgn) rfl 1 (by decide) (hg _ w480) (fun _ h9 => h9) rfl (tyX6_ok 1 (by decide)) rfl rfl (Nat.le_of_ble_eq_true rfl) dX6_add_32 (fun H locs hP hD hS => ?_)
    obtain ⟨V13, hV13⟩ : ∃ z, z = up2 V 43 gn z12 := ⟨_, rfl⟩
    have ew14 : (xw ad kk V L10 Z).set (40 + gn) ((ad (40 + gn)), .inr (6, (xfNames ad V gn).set 1 (.int z12))) = xw ad kk V13 L10 Z := by rw [hV13]; exact xpNames_size hgn
    have hP : va_P D vwCl (xw ad kk V13 L10 Z) H := by rw [← ew14]; exact hP
    have hD : va_D A (xw ad kk V13 L10 Z) := by rw [← ew14]; exact hD
    have hMV13 : rgd bX V13 := hMV.put hV13 (show 0 ≤ z12.toInt ∧ z12.toInt ≤ ((xcap gn : Nat) : Int) from by (first | exact om_dd26073c146a r1.1 r5 f7 hz12 | omega))
    have agV13 : agr [] [43, 44] V V13 := agV.up hV13 rfl
    have fwV13 : frX (xN gn) V V13 := frX.up fwV hV13 (Or.inr ⟨(by show gn ≤ gn; (first | exact om_36cf446a3c95 | omega)), (by show gn < gn + 1; (first | exact om_0bb971ab4ffe | omega))⟩)
    have pq15 : (V13 43 gn).toInt = z12.toInt := congrArg Int32.toInt (up2_s hV13)
    have rp16 : ∀ n : Nat, ¬ n = gn → V13 43 n = V 43 n := fun n hn => up2_k hV13 hn
    exact W.iret (v := (V 43 gn)) hx hb hr (fun t ht hW => ⟨⟨(V 43 gn), (V13, L10), rfl, ⟨hMV13, agV13, alL10, fwV13, (show (-1) ≤ ((V 43 gn)).toInt ∧ ((V 43 gn)).toInt ≤ 23 from by (first | exact om_bdc49d49ea67 r1.1 kc8 kl9 | omega)), (show ((V 43 gn)).toInt < (V13 43 gn).toInt from by (first | exact om_8a3bb01c6349 hz12 pq15 | omega)), (Imp.mk (fun hp => have hp : (V 43 gn).toInt < ((xcap gn : Nat) : Int) := hp; (show ((V 43 gn)).toInt = (V 43 gn).toInt ∧ (V13 43 gn).toInt = (V 43 gn).toInt + 1 from by (first | exact om_973282c118df hz12 pq15 | omega)))), rp16⟩, by rw [ht]; exact hP, va_K.moved hW.alike hK, hD⟩, hS.F ht⟩) hS.2.2 dX6_add_35
  · skip
    have f17 : z4.toInt ≤ ((V 43 gn)).toInt := b_nlt rfl rfl c6
    refine lv_iconst (v := (-1)) hx hb dX6_add_12 (by decide) ?_
    have rp18 : ∀ n : Nat, ¬ n = gn → V 43 n = V 43 n := fun _ _ => rfl
    exact W.iret (v := (-1)) hx hb hr (fun t ht hW => ⟨⟨(-1), (V, L), rfl, ⟨hMV, agV, alL, fwV, (by decide), (show (-1) < (V 43 gn).toInt from by (first | exact om_550cdc110816 r1.1 | omega)), (Imp.mk (fun hp => have hp : (V 43 gn).toInt < ((xcap gn : Nat) : Int) := hp; (show (-1) = (V 43 gn).toInt ∧ (V 43 gn).toInt = (V 43 gn).toInt + 1 from by omega))), rp18⟩, by rw [ht]; exact hP, va_K.moved hW.alike hK, hD⟩, hS.F ht⟩) hS.2.2 dX6_add_13
abbrev r_x_Nclear : Room := { frames := 0, cells := 0, slots := 0, locals := 0 }
abbrev q_x_Nclear (D : va_G) (ks : KS) (ad : Nat → Nat) (kk : Nat → ClassId) (V : Vf) (L : Lf) (Z : XZ) (A : Nat → Prop) : Array Value → State → Outcome → State → Prop := va_Qv (fun (u : Vf × Lf) => rgd bX u.1 ∧ agr [(4, 5), (4, 6), (4, 7), (4, 8)] [] V u.1 ∧ u.2 = L) (fun u t => gq D A (xw ad kk u.1 u.2 Z) (xty kk Z) t) A
set_option maxHeartbeats 4000000 in
set_option maxRecDepth 100000 in
theorem x_Nclear (l : Launch) (D : va_G) (ks : KS) (sz : Nat) (ad : Nat → Nat) (kk : Nat → ClassId) (V : Vf) (L : Lf) (Z : XZ)  (hMV : rgd bX V)  : Met l yX7_clear (Cond.code yX7_clear cX7_clear 1 none :: GW) r_x_Nclear (va_Pc [.ref (ad 4)] (gp D ks (xw ad kk V L Z) (xty kk Z) sz)) (q_x_Nclear D ks ad kk V L Z  (va_A (xw ad kk V L Z) sz)) 0 0 (va_A (xw ad kk V L Z) sz) := by
  refine g_met (q_x_Nclear D ks ad kk V L Z) (by decide) (Nat.le_of_ble_eq_true rfl) ?_
  intro p e s m below meth c A ls H locs hx hb hr hml hown hg hlocks hin hnw hgk hP hK hD hS hA hl
  have hown : s.vm.findClass RX7 = some m.cls := hown
  have hl : lv_has ls 1 [(0, .ref (ad 4))] := hl
  have hP : va_P D vwCl (xw ad kk V L Z) H := hP
  have hD : va_D A (xw ad kk V L Z) := hD
  have hK : va_K D vwCl (xty kk Z) s := hK
  have agV : agr [(4, 5), (4, 6), (4, 7), (4, 8)] [] V V := agr.rf
  refine lv_aload_n hx hb dX7_clear_0 rfl (lv_at hl 0 rfl) ?_
  refine lv_iconst (v := 0) hx hb dX7_clear_1 (by decide) ?_
  refine va_put (D := D) (ci := 7) (v := .int 0) (ty := tyX7 5) (fs := (xfNotes ad V L Z)) (C := RX7) (T := TX7) (N := 10) hx hb hg inX7 tyX7 tyX7_ok nmX7 hown hK hP hD hS 4 xgNotes rfl 5 (by decide) (hg _ w440) (fun _ h9 => h9) rfl (tyX7_ok 5 (by decide)) rfl rfl (Nat.le_of_ble_eq_true rfl) dX7_clear_2 (fun H locs hP hD hS => ?_)
  obtain ⟨V1, hV1⟩ : ∃ z, z = up2 V 4 5 0 := ⟨_, rfl⟩
  have ew2 : (xw ad kk V L Z).set 4 ((ad 4), .inr (7, (xfNotes ad V L Z).set 5 (.int 0))) = xw ad kk V1 L Z := by rw [hV1]; exact xw_ss (by decide) rfl (xb_si (by decide))
  have hP : va_P D vwCl (xw ad kk V1 L Z) H := by rw [← ew2]; exact hP
  have hD : va_D A (xw ad kk V1 L Z) := by rw [← ew2]; exact hD
  have hMV1 : rgd bX V1 := hMV.put hV1 (by decide)
  have agV1 : agr [(4, 5), (4, 6), (4, 7), (4, 8)] [] V V1 := agV.up hV1 rfl
  refine lv_aload_n hx hb dX7_clear_5 rfl (lv_at hl 0 rfl) ?_
  refine lv_iconst (v := 0) hx hb dX7_clear_6 (by decide) ?_
  refine va_put (D := D) (ci := 7) (v := .int 0) (ty := tyX7 6) (fs := (xfNotes ad V1 L Z)) (C := RX7) (T := TX7) (N := 10) hx hb hg inX7 tyX7 tyX7_ok nmX7 hown hK hP hD hS 4 xgNotes rfl 6 (by decide) (hg _ w441) (fun _ h9 => h9) rfl (tyX7_ok 6 (by decide)) rfl rfl (Nat.le_of_ble_eq_true rfl) dX7_clear_7 (fun H locs hP hD hS => ?_)
  obtain ⟨V3, hV3⟩ : ∃ z, z = up2 V1 4 6 0 := ⟨_, rfl⟩
  have ew4 : (xw ad kk V1 L Z).set 4 ((ad 4), .inr (7, (xfNotes ad V1 L Z).set 6 (.int 0))) = xw ad kk V3 L Z := by rw [hV3]; exact xw_ss (by decide) rfl (xb_si (by decide))
  have hP : va_P D vwCl (xw ad kk V3 L Z) H := by rw [← ew4]; exact hP
  have hD : va_D A (xw ad kk V3 L Z) := by rw [← ew4]; exact hD
  have hMV3 : rgd bX V3 := hMV1.put hV3 (by decide)
  have agV3 : agr [(4, 5), (4, 6), (4, 7), (4, 8)] [] V V3 := agV1.up hV3 rfl
  refine lv_aload_n hx hb dX7_clear_10 rfl (lv_at hl 0 rfl) ?_
  refine lv_iconst (v := 0) hx hb dX7_clear_11 (by decide) ?_
  refine va_put (D := D) (ci := 7) (v := .int 0) (ty := tyX7 7) (fs := (xfNotes ad V3 L Z)) (C := RX7) (T := TX7) (N := 10) hx hb hg inX7 tyX7 tyX7_ok nmX7 hown hK hP hD hS 4 xgNotes rfl 7 (by decide) (hg _ w442) (fun _ h9 => h9) rfl (tyX7_ok 7 (by decide)) rfl rfl (Nat.le_of_ble_eq_true rfl) dX7_clear_12 (fun H locs hP hD hS => ?_)
  obtain ⟨V5, hV5⟩ : ∃ z, z = up2 V3 4 7 0 := ⟨_, rfl⟩
  have ew6 : (xw ad kk V3 L Z).set 4 ((ad 4), .inr (7, (xfNotes ad V3 L Z).set 7 (.int 0))) = xw ad kk V5 L Z := by rw [hV5]; exact xw_ss (by decide) rfl (xb_si (by decide))
  have hP : va_P D vwCl (xw ad kk V5 L Z) H := by rw [← ew6]; exact hP
  have hD : va_D A (xw ad kk V5 L Z) := by rw [← ew6]; exact hD
  have hMV5 : rgd bX V5 := hMV3.put hV5 (i_full _)
  have agV5 : agr [(4, 5), (4, 6), (4, 7), (4, 8)] [] V V5 := agV3.up hV5 rfl
  refine lv_aload_n hx hb dX7_clear_15 rfl (lv_at hl 0 rfl) ?_
  refine lv_iconst (v := 0) hx hb dX7_clear_16 (by decide) ?_
  refine va_put (D := D) (ci := 7) (v := .int 0) (ty := tyX7 8) (fs := (xfNotes ad V5 L Z)) (C := RX7) (T := TX7) (N := 10) hx hb hg inX7 tyX7 tyX7_ok nmX7 hown hK hP hD hS 4 xgNotes rfl 8 (by decide) (hg _ w443) (fun _ h9 => h9) rfl (tyX7_ok 8 (by decide)) rfl rfl (Nat.le_of_ble_eq_true rfl) dX7_clear_17 (fun H locs hP hD hS => ?_)
  obtain ⟨V7, hV7⟩ : ∃ z, z = up2 V5 4 8 0 := ⟨_, rfl⟩
  have ew8 : (xw ad kk V5 L Z).set 4 ((ad 4), .inr (7, (xfNotes ad V5 L Z).set 8 (.int 0))) = xw ad kk V7 L Z := by rw [hV7]; exact xw_ss (by decide) rfl (xb_si (by decide))
  have hP : va_P D vwCl (xw ad kk V7 L Z) H := by rw [← ew8]; exact hP
  have hD : va_D A (xw ad kk V7 L Z) := by rw [← ew8]; exact hD
  have hMV7 : rgd bX V7 := hMV5.put hV7 (i_full _)
  have agV7 : agr [(4, 5), (4, 6), (4, 7), (4, 8)] [] V V7 := agV5.up hV7 rfl
  exact W.vret hx hb hr (fun t ht hW => ⟨⟨(V7, L), rfl, ⟨hMV7, agV7, rfl⟩, by rw [ht]; exact hP, va_K.moved hW.alike hK, hD⟩, hS.F ht⟩) hS.2.2 dX7_clear_20
abbrev r_x_NforgetThings : Room := { frames := 0, cells := 0, slots := 0, locals := 0 }
abbrev q_x_NforgetThings (D : va_G) (ks : KS) (ad : Nat → Nat) (kk : Nat → ClassId) (V : Vf) (L : Lf) (Z : XZ) (A : Nat → Prop) : Array Value → State → Outcome → State → Prop := va_Qv (fun (u : Vf × Lf) => rgd bX u.1 ∧ agr [(4, 5)] [] V u.1 ∧ u.2 = L) (fun u t => gq D A (xw ad kk u.1 u.2 Z) (xty kk Z) t) A
set_option maxHeartbeats 4000000 in
set_option maxRecDepth 100000 in
theorem x_NforgetThings (l : Launch) (D : va_G) (ks : KS) (sz : Nat) (ad : Nat → Nat) (kk : Nat → ClassId) (V : Vf) (L : Lf) (Z : XZ)  (hMV : rgd bX V)  : Met l yX7_forgetThings (Cond.code yX7_forgetThings cX7_forgetThings 1 none :: GW) r_x_NforgetThings (va_Pc [.ref (ad 4)] (gp D ks (xw ad kk V L Z) (xty kk Z) sz)) (q_x_NforgetThings D ks ad kk V L Z  (va_A (xw ad kk V L Z) sz)) 0 0 (va_A (xw ad kk V L Z) sz) := by
  refine g_met (q_x_NforgetThings D ks ad kk V L Z) (by decide) (Nat.le_of_ble_eq_true rfl) ?_
  intro p e s m below meth c A ls H locs hx hb hr hml hown hg hlocks hin hnw hgk hP hK hD hS hA hl
  have hown : s.vm.findClass RX7 = some m.cls := hown
  have hl : lv_has ls 1 [(0, .ref (ad 4))] := hl
  have hP : va_P D vwCl (xw ad kk V L Z) H := hP
  have hD : va_D A (xw ad kk V L Z) := hD
  have hK : va_K D vwCl (xty kk Z) s := hK
  have agV : agr [(4, 5)] [] V V := agr.rf
  refine lv_aload_n hx hb dX7_forgetThings_0 rfl (lv_at hl 0 rfl) ?_
  refine lv_iconst (v := 0) hx hb dX7_forgetThings_1 (by decide) ?_
  refine va_put (D := D) (ci := 7) (v := .int 0) (ty := tyX7 5) (fs := (xfNotes ad V L Z)) (C := RX7) (T := TX7) (N := 10) hx hb hg inX7 tyX7 tyX7_ok nmX7 hown hK hP hD hS 4 xgNotes rfl 5 (by decide) (hg _ w440) (fun _ h9 => h9) rfl (tyX7_ok 5 (by decide)) rfl rfl (Nat.le_of_ble_eq_true rfl) dX7_forgetThings_2 (fun H locs hP hD hS => ?_)
  obtain ⟨V1, hV1⟩ : ∃ z, z = up2 V 4 5 0 := ⟨_, rfl⟩
  have ew2 : (xw ad kk V L Z).set 4 ((ad 4), .inr (7, (xfNotes ad V L Z).set 5 (.int 0))) = xw ad kk V1 L Z := by rw [hV1]; exact xw_ss (by decide) rfl (xb_si (by decide))
  have hP : va_P D vwCl (xw ad kk V1 L Z) H := by rw [← ew2]; exact hP
  have hD : va_D A (xw ad kk V1 L Z) := by rw [← ew2]; exact hD
  have hMV1 : rgd bX V1 := hMV.put hV1 (by decide)
  have agV1 : agr [(4, 5)] [] V V1 := agV.up hV1 rfl
  exact W.vret hx hb hr (fun t ht hW => ⟨⟨(V1, L), rfl, ⟨hMV1, agV1, rfl⟩, by rw [ht]; exact hP, va_K.moved hW.alike hK, hD⟩, hS.F ht⟩) hS.2.2 dX7_forgetThings_5
abbrev r_x_NnoteThing : Room := { frames := 0, cells := 0, slots := 0, locals := 0 }
abbrev q_x_NnoteThing (D : va_G) (ks : KS) (ad : Nat → Nat) (kk : Nat → ClassId) (V : Vf) (L : Lf) (Z : XZ) (p0 : Int32) (p1 : Int32) (p2 : Int32) (A : Nat → Prop) : Array Value → State → Outcome → State → Prop := va_Qv (fun (u : Vf × Lf) => rgd bX u.1 ∧ agr [(4, 5)] [33, 34, 35] V u.1 ∧ u.2 = L) (fun u t => gq D A (xw ad kk u.1 u.2 Z) (xty kk Z) t) A
set_option maxHeartbeats 4000000 in
set_option maxRecDepth 100000 in
theorem x_NnoteThing (l : Launch) (D : va_G) (ks : KS) (sz : Nat) (ad : Nat → Nat) (kk : Nat → ClassId) (V : Vf) (L : Lf) (Z : XZ) (p0 : Int32) (p1 : Int32) (p2 : Int32) (hMV : rgd bX V)  : Met l yX7_noteThing (Cond.code yX7_noteThing cX7_noteThing 4 none :: GW) r_x_NnoteThing (va_Pc [.ref (ad 4), .int p0, .int p1, .int p2] (gp D ks (xw ad kk V L Z) (xty kk Z) sz)) (q_x_NnoteThing D ks ad kk V L Z p0 p1 p2 (va_A (xw ad kk V L Z) sz)) 0 0 (va_A (xw ad kk V L Z) sz) := by
  refine g_met (q_x_NnoteThing D ks ad kk V L Z p0 p1 p2) (by decide) (Nat.le_of_ble_eq_true rfl) ?_
  intro p e s m below meth c A ls H locs hx hb hr hml hown hg hlocks hin hnw hgk hP hK hD hS hA hl
  have hown : s.vm.findClass RX7 = some m.cls := hown
  have hl : lv_has ls 4 [(0, .ref (ad 4)), (1, .int p0), (2, .int p1), (3, .int p2)] := hl
  have hP : va_P D vwCl (xw ad kk V L Z) H := hP
  have hD : va_D A (xw ad kk V L Z) := hD
  have hK : va_K D vwCl (xty kk Z) s := hK
  have agV : agr [(4, 5)] [33, 34, 35] V V := agr.rf
  refine lv_aload_n hx hb dX7_noteThing_0 rfl (lv_at hl 0 rfl) ?_
  refine va_get (D := D) (ci := 7) (v := .int (V 4 9)) (fs := (xfNotes ad V L Z)) (C := RX7) (T := TX7) (N := 10) hx hb hg inX7 hown hK hP 4 xgNotes rfl 9 (by decide) (hg _ w444) (fun _ h9 => h9) rfl dX7_noteThing_1 ?_
  have r1 : 0 ≤ ((V 4 9)).toInt ∧ ((V 4 9)).toInt ≤ 1 := hMV 4 9
  refine lv_if_eq (tgt := 56) hx hb dX7_noteThing_4 (by decide) (fun c2 => ?_) (fun c2 => ?_)
  · skip
    have f3 : ((V 4 9)).toInt = 0 := b_eq rfl (by decide) c2
    exact W.vret hx hb hr (fun t ht hW => ⟨⟨(V, L), rfl, ⟨hMV, agV, rfl⟩, by rw [ht]; exact hP, va_K.moved hW.alike hK, hD⟩, hS.F ht⟩) hS.2.2 dX7_noteThing_56
  · skip
    have f4 : ((V 4 9)).toInt ≠ 0 := b_neq rfl (by decide) c2
    refine lv_aload_n hx hb dX7_noteThing_7 rfl (lv_at hl 0 rfl) ?_
    refine va_get (D := D) (ci := 7) (v := .int (V 4 5)) (fs := (xfNotes ad V L Z)) (C := RX7) (T := TX7) (N := 10) hx hb hg inX7 hown hK hP 4 xgNotes rfl 5 (by decide) (hg _ w440) (fun _ h9 => h9) rfl dX7_noteThing_8 ?_
    have r5 : 0 ≤ ((V 4 5)).toInt ∧ ((V 4 5)).toInt ≤ 100 := hMV 4 5
    refine lv_bipush (v := 100) hx hb dX7_noteThing_11 (by decide) ?_
    refine lv_icmp_ge (tgt := 56) hx hb dX7_noteThing_13 (by decide) (fun c6 => ?_) (fun c6 => ?_)
    · skip
      have f7 : 100 ≤ ((V 4 5)).toInt := b_le (by decide) rfl c6
      exact W.vret hx hb hr (fun t ht hW => ⟨⟨(V, L), rfl, ⟨hMV, agV, rfl⟩, by rw [ht]; exact hP, va_K.moved hW.alike hK, hD⟩, hS.F ht⟩) hS.2.2 dX7_noteThing_56
    · skip
      have f8 : ((V 4 5)).toInt < 100 := b_nle (by decide) rfl c6
      refine lv_aload_n hx hb dX7_noteThing_16 rfl (lv_at hl 0 rfl) ?_
      refine va_get (D := D) (ci := 7) (v := .ref (ad 30)) (fs := (xfNotes ad V L Z)) (C := RX7) (T := TX7) (N := 10) hx hb hg inX7 hown hK hP 4 xgNotes rfl 0 (by decide) (hg _ w435) (fun _ h9 => h9) rfl dX7_noteThing_17 ?_
      refine lv_aload_n hx hb dX7_noteThing_20 rfl (lv_at hl 0 rfl) ?_
      refine va_get (D := D) (ci := 7) (v := .int (V 4 5)) (fs := (xfNotes ad V L Z)) (C := RX7) (T := TX7) (N := 10) hx hb hg inX7 hown hK hP 4 xgNotes rfl 5 (by decide) (hg _ w440) (fun _ h9 => h9) rfl dX7_noteThing_21 ?_
      refine lv_iload_n hx hb dX7_noteThing_24 rfl (lv_at hl 1 rfl) ?_
      refine va_iast (D := D) (i := (V 4 5)) (x := p0) hx hb hK hP hD hS 30 23 rfl rfl (i_in (a := ((V 4 5)).toInt) rfl (by (first | exact om_84fa328245f5 r5.1 f8 | omega))) dX7_noteThing_25 (fun H locs hP hD hS => ?_)
      obtain ⟨V9, hV9⟩ : ∃ z, z = up2 V 33 (Int32.toNatClampNeg (V 4 5)) p0 := ⟨_, rfl⟩
      have ew10 : (xw ad kk V L Z).set 30 ((ad 30), .inl ((kk 30), 100, .inl (upd (V 33) (Int32.toNatClampNeg (V 4 5)) p0))) = xw ad kk V9 L Z := by rw [hV9]; exact xw_ss (by decide) rfl (xb_si (by decide))
      have hP : va_P D vwCl (xw ad kk V9 L Z) H := by rw [← ew10]; exact hP
      have hD : va_D A (xw ad kk V9 L Z) := by rw [← ew10]; exact hD
      have hMV9 : rgd bX V9 := hMV.put hV9 (i_full _)
      have agV9 : agr [(4, 5)] [33, 34, 35] V V9 := agV.up hV9 rfl
      refine lv_aload_n hx hb dX7_noteThing_26 rfl (lv_at hl 0 rfl) ?_
      refine va_get (D := D) (ci := 7) (v := .ref (ad 31)) (fs := (xfNotes ad V9 L Z)) (C := RX7) (T := TX7) (N := 10) hx hb hg inX7 hown hK hP 4 xgNotes rfl 1 (by decide) (hg _ w436) (fun _ h9 => h9) rfl dX7_noteThing_27 ?_
      refine lv_aload_n hx hb dX7_noteThing_30 rfl (lv_at hl 0 rfl) ?_
      refine va_get (D := D) (ci := 7) (v := .int (V9 4 5)) (fs := (xfNotes ad V9 L Z)) (C := RX7) (T := TX7) (N := 10) hx hb hg inX7 hown hK hP 4 xgNotes rfl 5 (by decide) (hg _ w440) (fun _ h9 => h9) rfl dX7_noteThing_31 ?_
      refine g_top (v := (V 4 5)) (up2_o hV9 (by decide)) ?_
      refine lv_iload_n hx hb dX7_noteThing_34 rfl (lv_at hl 2 rfl) ?_
      refine va_iast (D := D) (i := (V 4 5)) (x := p1) hx hb hK hP hD hS 31 24 rfl rfl (i_in (a := ((V 4 5)).toInt) rfl (by (first | exact om_84fa328245f5 r5.1 f8 | omega))) dX7_noteThing_35 (fun H locs hP hD hS => ?_)
      obtain ⟨V11, hV11⟩ : ∃ z, z = up2 V9 34 (Int32.toNatClampNeg (V 4 5)) p1 := ⟨_, rfl⟩
      have ew12 : (xw ad kk V9 L Z).set 31 ((ad 31), .inl ((kk 31), 100, .inl (upd (V9 34) (Int32.toNatClampNeg (V 4 5)) p1))) = xw ad kk V11 L Z := by rw [hV11]; exact xw_ss (by decide) rfl (xb_si (by decide))
      have hP : va_P D vwCl (xw ad kk V11 L Z) H := by rw [← ew12]; exact hP
      have hD : va_D A (xw ad kk V11 L Z) := by rw [← ew12]; exact hD
      have hMV11 : rgd bX V11 := hMV9.put hV11 (i_full _)
      have agV11 : agr [(4, 5)] [33, 34, 35] V V11 := agV9.up hV11 rfl
      refine lv_aload_n hx hb dX7_noteThing_36 rfl (lv_at hl 0 rfl) ?_
      refine va_get (D := D) (ci := 7) (v := .ref (ad 32)) (fs := (xfNotes ad V11 L Z)) (C := RX7) (T := TX7) (N := 10) hx hb hg inX7 hown hK hP 4 xgNotes rfl 2 (by decide) (hg _ w437) (fun _ h9 => h9) rfl dX7_noteThing_37 ?_
      refine lv_aload_n hx hb dX7_noteThing_40 rfl (lv_at hl 0 rfl) ?_
      refine va_get (D := D) (ci := 7) (v := .int (V11 4 5)) (fs := (xfNotes ad V11 L Z)) (C := RX7) (T := TX7) (N := 10) hx hb hg inX7 hown hK hP 4 xgNotes rfl 5 (by decide) (hg _ w440) (fun _ h9 => h9) rfl dX7_noteThing_41 ?_
      refine g_top (v := (V 4 5)) ((up2_o hV11 (by decide)).trans (up2_o hV9 (by decide))) ?_
      refine lv_iload_n hx hb dX7_noteThing_44 rfl (lv_at hl 3 rfl) ?_
      refine va_iast (D := D) (i := (V 4 5)) (x := p2) hx hb hK hP hD hS 32 25 rfl rfl (i_in (a := ((V 4 5)).toInt) rfl (by (first | exact om_84fa328245f5 r5.1 f8 | omega))) dX7_noteThing_45 (fun H locs hP hD hS => ?_)
      obtain ⟨V13, hV13⟩ : ∃ z, z = up2 V11 35 (Int32.toNatClampNeg (V 4 5)) p2 := ⟨_, rfl⟩
      have ew14 : (xw ad kk V11 L Z).set 32 ((ad 32), .inl ((kk 32), 100, .inl (upd (V11 35) (Int32.toNatClampNeg (V 4 5)) p2))) = xw ad kk V13 L Z := by rw [hV13]; exact xw_ss (by decide) rfl (xb_si (by decide))
      have hP : va_P D vwCl (xw ad kk V13 L Z) H := by rw [← ew14]; exact hP
      have hD : va_D A (xw ad kk V13 L Z) := by rw [← ew14]; exact hD
      have hMV13 : rgd bX V13 := hMV11.put hV13 (i_full _)
      have agV13 : agr [(4, 5)] [33, 34, 35] V V13 := agV11.up hV13 rfl
      refine lv_aload_n hx hb dX7_noteThing_46 rfl (lv_at hl 0 rfl) ?_
      refine lv_dup hx hb dX7_noteThing_47 rfl ?_
      refine va_get (D := D) (ci := 7) (v := .int (V13 4 5)) (fs := (xfNotes ad V13 L Z)) (C := RX7) (T := TX7) (N := 10) hx hb hg inX7 hown hK hP 4 xgNotes rfl 5 (by decide) (hg _ w440) (fun _ h9 => h9) rfl dX7_noteThing_48 ?_
      refine g_top (v := (V 4 5)) ((up2_o hV13 (by decide)).trans ((up2_o hV11 (by decide)).trans (up2_o hV9 (by decide)))) ?_
      refine lv_iconst (v := 1) hx hb dX7_noteThing_51 (by decide) ?_
      refine lv_iadd hx hb dX7_noteThing_52 ?_
      refine lv_topi (fun z15 ez15 => ?_)
      have hz15 : z15.toInt = ((V 4 5)).toInt + 1 := i_add ez15 rfl (by decide) (by (first | exact om_607e1c2a08b1 r5.1 f8 | omega))
      refine va_put (D := D) (ci := 7) (v := .int z15) (ty := tyX7 5) (fs := (xfNotes ad V13 L Z)) (C := RX7) (T := TX7) (N := 10) hx hb hg inX7 tyX7 tyX7_ok nmX7 hown hK hP hD hS 4 xgNotes rfl 5 (by decide) (hg _ w440) (fun _ h9 => h9) rfl (tyX7_ok 5 (by decide)) rfl rfl (Nat.le_of_ble_eq_true rfl) dX7_noteThing_53 (fun H locs hP hD hS => ?_)
      obtain ⟨V16, hV16⟩ : ∃ z, z = up2 V13 4 5 z15 := ⟨_, rfl⟩
      have ew17 : (xw ad kk V13 L Z).set 4 ((ad 4), .inr (7, (xfNotes ad V13 L Z).set 5 (.int z15))) = xw ad kk V16 L Z := by rw [hV16]; exact xw_ss (by decide) rfl (xb_si (by decide))
      have hP : va_P D vwCl (xw ad kk V16 L Z) H := by rw [← ew17]; exact hP
      have hD : va_D A (xw ad kk V16 L Z) := by rw [← ew17]; exact hD
      have hMV16 : rgd bX V16 := hMV13.put hV16 (show 0 ≤ z15.toInt ∧ z15.toInt ≤ 100 from by (first | exact om_739bffcf43dc r5.1 f8 hz15 | omega))
      have agV16 : agr [(4, 5)] [33, 34, 35] V V16 := agV13.up hV16 rfl
      exact W.vret hx hb hr (fun t ht hW => ⟨⟨(V16, L), rfl, ⟨hMV16, agV16, rfl⟩, by rw [ht]; exact hP, va_K.moved hW.alike hK, hD⟩, hS.F ht⟩) hS.2.2 dX7_noteThing_56
abbrev r_x_NofThing : Room := { frames := 0, cells := 0, slots := 0, locals := 0 }
abbrev q_x_NofThing (D : va_G) (ks : KS) (ad : Nat → Nat) (kk : Nat → ClassId) (V : Vf) (L : Lf) (Z : XZ) (p0 : Int32) (p1 : Int32) (A : Nat → Prop) : Array Value → State → Outcome → State → Prop := va_Qi (fun (r : Int32) (_ : Unit) => True) (fun _ t => gq D A (xw ad kk V L Z) (xty kk Z) t) A
set_option maxHeartbeats 4000000 in
set_option maxRecDepth 100000 in
theorem x_NofThing (l : Launch) (D : va_G) (ks : KS) (sz : Nat) (ad : Nat → Nat) (kk : Nat → ClassId) (V : Vf) (L : Lf) (Z : XZ) (p0 : Int32) (p1 : Int32) (hMV : rgd bX V)  : Met l yX7_ofThing (Cond.code yX7_ofThing cX7_ofThing 3 (some .int) :: GW) r_x_NofThing (va_Pc [.ref (ad 4), .int p0, .int p1] (gp D ks (xw ad kk V L Z) (xty kk Z) sz)) (q_x_NofThing D ks ad kk V L Z p0 p1 (va_A (xw ad kk V L Z) sz)) 0 0 (va_A (xw ad kk V L Z) sz) := by
  refine g_met (q_x_NofThing D ks ad kk V L Z p0 p1) (by decide) (Nat.le_of_ble_eq_true rfl) ?_
  intro p e s m below meth c A ls H locs hx hb hr hml hown hg hlocks hin hnw hgk hP hK hD hS hA hl
  have hown : s.vm.findClass RX7 = some m.cls := hown
  have hl : lv_has ls 3 [(0, .ref (ad 4)), (1, .int p0), (2, .int p1)] := hl
  have hP : va_P D vwCl (xw ad kk V L Z) H := hP
  have hD : va_D A (xw ad kk V L Z) := hD
  have hK : va_K D vwCl (xty kk Z) s := hK
  refine lv_iload_n hx hb dX7_ofThing_0 rfl (lv_at hl 1 rfl) ?_
  refine lv_if_lt (tgt := 12) hx hb dX7_ofThing_1 (by decide) (fun c1 => ?_) (fun c1 => ?_)
  · skip
    have f2 : p0.toInt < 0 := b_lt rfl (by decide) c1
    refine lv_iconst (v := (-1)) hx hb dX7_ofThing_12 (by decide) ?_
    exact W.iret (v := (-1)) hx hb hr (fun t ht hW => ⟨⟨(-1), (), rfl, trivial, by rw [ht]; exact hP, va_K.moved hW.alike hK, hD⟩, hS.F ht⟩) hS.2.2 dX7_ofThing_13
  · skip
    have f3 : 0 ≤ p0.toInt := b_nlt rfl (by decide) c1
    refine lv_iload_n hx hb dX7_ofThing_4 rfl (lv_at hl 1 rfl) ?_
    refine lv_aload_n hx hb dX7_ofThing_5 rfl (lv_at hl 0 rfl) ?_
    refine va_get (D := D) (ci := 7) (v := .int (V 4 5)) (fs := (xfNotes ad V L Z)) (C := RX7) (T := TX7) (N := 10) hx hb hg inX7 hown hK hP 4 xgNotes rfl 5 (by decide) (hg _ w440) (fun _ h9 => h9) rfl dX7_ofThing_6 ?_
    have r4 : 0 ≤ ((V 4 5)).toInt ∧ ((V 4 5)).toInt ≤ 100 := hMV 4 5
    refine lv_icmp_lt (tgt := 14) hx hb dX7_ofThing_9 (by decide) (fun c5 => ?_) (fun c5 => ?_)
    · skip
      have f6 : p0.toInt < ((V 4 5)).toInt := b_lt rfl rfl c5
      refine lv_iload_n hx hb dX7_ofThing_14 rfl (lv_at hl 2 rfl) ?_
      by_cases q7 : p1 = 0
      · refine g_top (v := 0) q7 ?_
        have fq7 : p1.toInt = 0 := b_eq rfl (by decide) q7
        refine lv_tableIn (x := 0) (off := 25) (tgt := 40) hx hb dX7_ofThing_15 (by decide) (by decide) (by decide) (by decide) ?_
        refine lv_aload_n hx hb dX7_ofThing_40 rfl (lv_at hl 0 rfl) ?_
        refine va_get (D := D) (ci := 7) (v := .ref (ad 30)) (fs := (xfNotes ad V L Z)) (C := RX7) (T := TX7) (N := 10) hx hb hg inX7 hown hK hP 4 xgNotes rfl 0 (by decide) (hg _ w435) (fun _ h9 => h9) rfl dX7_ofThing_41 ?_
        refine lv_iload_n hx hb dX7_ofThing_44 rfl (lv_at hl 1 rfl) ?_
        refine va_iald (D := D) (i := p0) hx hb hK hP 30 23 rfl rfl (i_in (a := p0.toInt) rfl (by (first | exact om_33f4a035a899 f3 r4.2 f6 | omega))) dX7_ofThing_45 ?_
        exact W.iret (v := (V 33 (Int32.toNatClampNeg p0))) hx hb hr (fun t ht hW => ⟨⟨(V 33 (Int32.toNatClampNeg p0)), (), rfl, trivial, by rw [ht]; exact hP, va_K.moved hW.alike hK, hD⟩, hS.F ht⟩) hS.2.2 dX7_ofThing_46
      by_cases q8 : p1 = 1
      · refine g_top (v := 1) q8 ?_
        have fq8 : p1.toInt = 1 := b_eq rfl (by decide) q8
        refine lv_tableIn (x := 1) (off := 32) (tgt := 47) hx hb dX7_ofThing_15 (by decide) (by decide) (by decide) (by decide) ?_
        refine lv_aload_n hx hb dX7_ofThing_47 rfl (lv_at hl 0 rfl) ?_
        refine va_get (D := D) (ci := 7) (v := .ref (ad 31)) (fs := (xfNotes ad V L Z)) (C := RX7) (T := TX7) (N := 10) hx hb hg inX7 hown hK hP 4 xgNotes rfl 1 (by decide) (hg _ w436) (fun _ h9 => h9) rfl dX7_ofThing_48 ?_
        refine lv_iload_n hx hb dX7_ofThing_51 rfl (lv_at hl 1 rfl) ?_
        refine va_iald (D := D) (i := p0) hx hb hK hP 31 24 rfl rfl (i_in (a := p0.toInt) rfl (by (first | exact om_33f4a035a899 f3 r4.2 f6 | omega))) dX7_ofThing_52 ?_
        exact W.iret (v := (V 34 (Int32.toNatClampNeg p0))) hx hb hr (fun t ht hW => ⟨⟨(V 34 (Int32.toNatClampNeg p0)), (), rfl, trivial, by rw [ht]; exact hP, va_K.moved hW.alike hK, hD⟩, hS.F ht⟩) hS.2.2 dX7_ofThing_53
      by_cases q9 : p1 = 2
      · refine g_top (v := 2) q9 ?_
        have fq9 : p1.toInt = 2 := b_eq rfl (by decide) q9
        refine lv_tableIn (x := 2) (off := 39) (tgt := 54) hx hb dX7_ofThing_15 (by decide) (by decide) (by decide) (by decide) ?_
        refine lv_aload_n hx hb dX7_ofThing_54 rfl (lv_at hl 0 rfl) ?_
        refine va_get (D := D) (ci := 7) (v := .ref (ad 32)) (fs := (xfNotes ad V L Z)) (C := RX7) (T := TX7) (N := 10) hx hb hg inX7 hown hK hP 4 xgNotes rfl 2 (by decide) (hg _ w437) (fun _ h9 => h9) rfl dX7_ofThing_55 ?_
        refine lv_iload_n hx hb dX7_ofThing_58 rfl (lv_at hl 1 rfl) ?_
        refine va_iald (D := D) (i := p0) hx hb hK hP 32 25 rfl rfl (i_in (a := p0.toInt) rfl (by (first | exact om_33f4a035a899 f3 r4.2 f6 | omega))) dX7_ofThing_59 ?_
        exact W.iret (v := (V 35 (Int32.toNatClampNeg p0))) hx hb hr (fun t ht hW => ⟨⟨(V 35 (Int32.toNatClampNeg p0)), (), rfl, trivial, by rw [ht]; exact hP, va_K.moved hW.alike hK, hD⟩, hS.F ht⟩) hS.2.2 dX7_ofThing_60
      refine lv_tableOut (x := p1) (tgt := 61) hx hb dX7_ofThing_15 (tab_out p1 2 (by decide) (fun k hk => match k, hk with | 0, _ => q7 | 1, _ => q8 | 2, _ => q9 | k + 3, hk => absurd hk (by omega))) (by decide) ?_
      refine lv_iconst (v := (-1)) hx hb dX7_ofThing_61 (by decide) ?_
      exact W.iret (v := (-1)) hx hb hr (fun t ht hW => ⟨⟨(-1), (), rfl, trivial, by rw [ht]; exact hP, va_K.moved hW.alike hK, hD⟩, hS.F ht⟩) hS.2.2 dX7_ofThing_62
    · skip
      have f10 : ((V 4 5)).toInt ≤ p0.toInt := b_nlt rfl rfl c5
      refine lv_iconst (v := (-1)) hx hb dX7_ofThing_12 (by decide) ?_
      exact W.iret (v := (-1)) hx hb hr (fun t ht hW => ⟨⟨(-1), (), rfl, trivial, by rw [ht]; exact hP, va_K.moved hW.alike hK, hD⟩, hS.F ht⟩) hS.2.2 dX7_ofThing_13
abbrev r_x_NnoteClosing : Room := { frames := 0, cells := 0, slots := 0, locals := 0 }
abbrev q_x_NnoteClosing (D : va_G) (ks : KS) (ad : Nat → Nat) (kk : Nat → ClassId) (V : Vf) (L : Lf) (Z : XZ) (p0 : Int32) (p1 : Int32) (A : Nat → Prop) : Array Value → State → Outcome → State → Prop := va_Qv (fun (u : Vf × Lf) => rgd bX u.1 ∧ agr [(4, 6)] [36, 37] V u.1 ∧ u.2 = L) (fun u t => gq D A (xw ad kk u.1 u.2 Z) (xty kk Z) t) A
set_option maxHeartbeats 4000000 in
set_option maxRecDepth 100000 in
theorem x_NnoteClosing (l : Launch) (D : va_G) (ks : KS) (sz : Nat) (ad : Nat → Nat) (kk : Nat → ClassId) (V : Vf) (L : Lf) (Z : XZ) (p0 : Int32) (p1 : Int32) (hMV : rgd bX V)  : Met l yX7_noteClosing (Cond.code yX7_noteClosing cX7_noteClosing 3 none :: GW) r_x_NnoteClosing (va_Pc [.ref (ad 4), .int p0, .int p1] (gp D ks (xw ad kk V L Z) (xty kk Z) sz)) (q_x_NnoteClosing D ks ad kk V L Z p0 p1 (va_A (xw ad kk V L Z) sz)) 0 0 (va_A (xw ad kk V L Z) sz) := by
  refine g_met (q_x_NnoteClosing D ks ad kk V L Z p0 p1) (by decide) (Nat.le_of_ble_eq_true rfl) ?_
  intro p e s m below meth c A ls H locs hx hb hr hml hown hg hlocks hin hnw hgk hP hK hD hS hA hl
  have hown : s.vm.findClass RX7 = some m.cls := hown
  have hl : lv_has ls 3 [(0, .ref (ad 4)), (1, .int p0), (2, .int p1)] := hl
  have hP : va_P D vwCl (xw ad kk V L Z) H := hP
  have hD : va_D A (xw ad kk V L Z) := hD
  have hK : va_K D vwCl (xty kk Z) s := hK
  have agV : agr [(4, 6)] [36, 37] V V := agr.rf
  refine lv_aload_n hx hb dX7_noteClosing_0 rfl (lv_at hl 0 rfl) ?_
  refine va_get (D := D) (ci := 7) (v := .int (V 4 6)) (fs := (xfNotes ad V L Z)) (C := RX7) (T := TX7) (N := 10) hx hb hg inX7 hown hK hP 4 xgNotes rfl 6 (by decide) (hg _ w441) (fun _ h9 => h9) rfl dX7_noteClosing_1 ?_
  have r1 : 0 ≤ ((V 4 6)).toInt ∧ ((V 4 6)).toInt ≤ 300 := hMV 4 6
  refine lv_sipush (v := 300) hx hb dX7_noteClosing_4 (by decide) ?_
  refine lv_icmp_ge (tgt := 40) hx hb dX7_noteClosing_7 (by decide) (fun c2 => ?_) (fun c2 => ?_)
  · skip
    have f3 : 300 ≤ ((V 4 6)).toInt := b_le (by decide) rfl c2
    exact W.vret hx hb hr (fun t ht hW => ⟨⟨(V, L), rfl, ⟨hMV, agV, rfl⟩, by rw [ht]; exact hP, va_K.moved hW.alike hK, hD⟩, hS.F ht⟩) hS.2.2 dX7_noteClosing_40
  · skip
    have f4 : ((V 4 6)).toInt < 300 := b_nle (by decide) rfl c2
    refine lv_aload_n hx hb dX7_noteClosing_10 rfl (lv_at hl 0 rfl) ?_
    refine va_get (D := D) (ci := 7) (v := .ref (ad 33)) (fs := (xfNotes ad V L Z)) (C := RX7) (T := TX7) (N := 10) hx hb hg inX7 hown hK hP 4 xgNotes rfl 3 (by decide) (hg _ w438) (fun _ h9 => h9) rfl dX7_noteClosing_11 ?_
    refine lv_aload_n hx hb dX7_noteClosing_14 rfl (lv_at hl 0 rfl) ?_
    refine va_get (D := D) (ci := 7) (v := .int (V 4 6)) (fs := (xfNotes ad V L Z)) (C := RX7) (T := TX7) (N := 10) hx hb hg inX7 hown hK hP 4 xgNotes rfl 6 (by decide) (hg _ w441) (fun _ h9 => h9) rfl dX7_noteClosing_15 ?_
    refine lv_iload_n hx hb dX7_noteClosing_18 rfl (lv_at hl 1 rfl) ?_
    refine va_iast (D := D) (i := (V 4 6)) (x := p0) hx hb hK hP hD hS 33 26 rfl rfl (i_in (a := ((V 4 6)).toInt) rfl (by (first | exact om_5b0e5b7d98b0 r1.1 f4 | omega))) dX7_noteClosing_19 (fun H locs hP hD hS => ?_)
    obtain ⟨V5, hV5⟩ : ∃ z, z = up2 V 36 (Int32.toNatClampNeg (V 4 6)) p0 := ⟨_, rfl⟩
    have ew6 : (xw ad kk V L Z).set 33 ((ad 33), .inl ((kk 33), 300, .inl (upd (V 36) (Int32.toNatClampNeg (V 4 6)) p0))) = xw ad kk V5 L Z := by rw [hV5]; exact xw_ss (by decide) rfl (xb_si (by decide))
    have hP : va_P D vwCl (xw ad kk V5 L Z) H := by rw [← ew6]; exact hP
    have hD : va_D A (xw ad kk V5 L Z) := by rw [← ew6]; exact hD
    have hMV5 : rgd bX V5 := hMV.put hV5 (i_full _)
    have agV5 : agr [(4, 6)] [36, 37] V V5 := agV.up hV5 rfl
    refine lv_aload_n hx hb dX7_noteClosing_20 rfl (lv_at hl 0 rfl) ?_
    refine va_get (D := D) (ci := 7) (v := .ref (ad 34)) (fs := (xfNotes ad V5 L Z)) (C := RX7) (T := TX7) (N := 10) hx hb hg inX7 hown hK hP 4 xgNotes rfl 4 (by decide) (hg _ w439) (fun _ h9 => h9) rfl dX7_noteClosing_21 ?_
    refine lv_aload_n hx hb dX7_noteClosing_24 rfl (lv_at hl 0 rfl) ?_
    refine va_get (D := D) (ci := 7) (v := .int (V5 4 6)) (fs := (xfNotes ad V5 L Z)) (C := RX7) (T := TX7) (N := 10) hx hb hg inX7 hown hK hP 4 xgNotes rfl 6 (by decide) (hg _ w441) (fun _ h9 => h9) rfl dX7_noteClosing_25 ?_
    refine g_top (v := (V 4 6)) (up2_o hV5 (by decide)) ?_
    refine lv_iload_n hx hb dX7_noteClosing_28 rfl (lv_at hl 2 rfl) ?_
    refine va_iast (D := D) (i := (V 4 6)) (x := p1) hx hb hK hP hD hS 34 27 rfl rfl (i_in (a := ((V 4 6)).toInt) rfl (by (first | exact om_5b0e5b7d98b0 r1.1 f4 | omega))) dX7_noteClosing_29 (fun H locs hP hD hS => ?_)
    obtain ⟨V7, hV7⟩ : ∃ z, z = up2 V5 37 (Int32.toNatClampNeg (V 4 6)) p1 := ⟨_, rfl⟩
    have ew8 : (xw ad kk V5 L Z).set 34 ((ad 34), .inl ((kk 34), 300, .inl (upd (V5 37) (Int32.toNatClampNeg (V 4 6)) p1))) = xw ad kk V7 L Z := by rw [hV7]; exact xw_ss (by decide) rfl (xb_si (by decide))
    have hP : va_P D vwCl (xw ad kk V7 L Z) H := by rw [← ew8]; exact hP
    have hD : va_D A (xw ad kk V7 L Z) := by rw [← ew8]; exact hD
    have hMV7 : rgd bX V7 := hMV5.put hV7 (i_full _)
    have agV7 : agr [(4, 6)] [36, 37] V V7 := agV5.up hV7 rfl
    refine lv_aload_n hx hb dX7_noteClosing_30 rfl (lv_at hl 0 rfl) ?_
    refine lv_dup hx hb dX7_noteClosing_31 rfl ?_
    refine va_get (D := D) (ci := 7) (v := .int (V7 4 6)) (fs := (xfNotes ad V7 L Z)) (C := RX7) (T := TX7) (N := 10) hx hb hg inX7 hown hK hP 4 xgNotes rfl 6 (by decide) (hg _ w441) (fun _ h9 => h9) rfl dX7_noteClosing_32 ?_
    refine g_top (v := (V 4 6)) ((up2_o hV7 (by decide)).trans (up2_o hV5 (by decide))) ?_
    refine lv_iconst (v := 1) hx hb dX7_noteClosing_35 (by decide) ?_
    refine lv_iadd hx hb dX7_noteClosing_36 ?_
    refine lv_topi (fun z9 ez9 => ?_)
    have hz9 : z9.toInt = ((V 4 6)).toInt + 1 := i_add ez9 rfl (by decide) (by (first | exact om_e89c2ae064a9 r1.1 f4 | omega))
    refine va_put (D := D) (ci := 7) (v := .int z9) (ty := tyX7 6) (fs := (xfNotes ad V7 L Z)) (C := RX7) (T := TX7) (N := 10) hx hb hg inX7 tyX7 tyX7_ok nmX7 hown hK hP hD hS 4 xgNotes rfl 6 (by decide) (hg _ w441) (fun _ h9 => h9) rfl (tyX7_ok 6 (by decide)) rfl rfl (Nat.le_of_ble_eq_true rfl) dX7_noteClosing_37 (fun H locs hP hD hS => ?_)
    obtain ⟨V10, hV10⟩ : ∃ z, z = up2 V7 4 6 z9 := ⟨_, rfl⟩
    have ew11 : (xw ad kk V7 L Z).set 4 ((ad 4), .inr (7, (xfNotes ad V7 L Z).set 6 (.int z9))) = xw ad kk V10 L Z := by rw [hV10]; exact xw_ss (by decide) rfl (xb_si (by decide))
    have hP : va_P D vwCl (xw ad kk V10 L Z) H := by rw [← ew11]; exact hP
    have hD : va_D A (xw ad kk V10 L Z) := by rw [← ew11]; exact hD
    have hMV10 : rgd bX V10 := hMV7.put hV10 (show 0 ≤ z9.toInt ∧ z9.toInt ≤ 300 from by (first | exact om_59cf3ec53513 r1.1 f4 hz9 | omega))
    have agV10 : agr [(4, 6)] [36, 37] V V10 := agV7.up hV10 rfl
    exact W.vret hx hb hr (fun t ht hW => ⟨⟨(V10, L), rfl, ⟨hMV10, agV10, rfl⟩, by rw [ht]; exact hP, va_K.moved hW.alike hK, hD⟩, hS.F ht⟩) hS.2.2 dX7_noteClosing_40
abbrev r_x_NofClosing : Room := { frames := 0, cells := 0, slots := 0, locals := 0 }
abbrev q_x_NofClosing (D : va_G) (ks : KS) (ad : Nat → Nat) (kk : Nat → ClassId) (V : Vf) (L : Lf) (Z : XZ) (p0 : Int32) (p1 : Int32) (A : Nat → Prop) : Array Value → State → Outcome → State → Prop := va_Qi (fun (r : Int32) (_ : Unit) => True) (fun _ t => gq D A (xw ad kk V L Z) (xty kk Z) t) A
abbrev r_x_NnoteCause : Room := { frames := 0, cells := 0, slots := 0, locals := 0 }
abbrev q_x_NnoteCause (D : va_G) (ks : KS) (ad : Nat → Nat) (kk : Nat → ClassId) (V : Vf) (L : Lf) (Z : XZ) (p0 : Int32) (p1 : Int32) (A : Nat → Prop) : Array Value → State → Outcome → State → Prop := va_Qv (fun (u : Vf × Lf) => rgd bX u.1 ∧ agr [(4, 7), (4, 8)] [] V u.1 ∧ u.2 = L) (fun u t => gq D A (xw ad kk u.1 u.2 Z) (xty kk Z) t) A
set_option maxHeartbeats 4000000 in
set_option maxRecDepth 100000 in
theorem x_NnoteCause (l : Launch) (D : va_G) (ks : KS) (sz : Nat) (ad : Nat → Nat) (kk : Nat → ClassId) (V : Vf) (L : Lf) (Z : XZ) (p0 : Int32) (p1 : Int32) (hMV : rgd bX V)  : Met l yX7_noteCause (Cond.code yX7_noteCause cX7_noteCause 3 none :: GW) r_x_NnoteCause (va_Pc [.ref (ad 4), .int p0, .int p1] (gp D ks (xw ad kk V L Z) (xty kk Z) sz)) (q_x_NnoteCause D ks ad kk V L Z p0 p1 (va_A (xw ad kk V L Z) sz)) 0 0 (va_A (xw ad kk V L Z) sz) := by
  refine g_met (q_x_NnoteCause D ks ad kk V L Z p0 p1) (by decide) (Nat.le_of_ble_eq_true rfl) ?_
  intro p e s m below meth c A ls H locs hx hb hr hml hown hg hlocks hin hnw hgk hP hK hD hS hA hl
  have hown : s.vm.findClass RX7 = some m.cls := hown
  have hl : lv_has ls 3 [(0, .ref (ad 4)), (1, .int p0), (2, .int p1)] := hl
  have hP : va_P D vwCl (xw ad kk V L Z) H := hP
  have hD : va_D A (xw ad kk V L Z) := hD
  have hK : va_K D vwCl (xty kk Z) s := hK
  have agV : agr [(4, 7), (4, 8)] [] V V := agr.rf
  refine lv_aload_n hx hb dX7_noteCause_0 rfl (lv_at hl 0 rfl) ?_
  refine lv_iload_n hx hb dX7_noteCause_1 rfl (lv_at hl 1 rfl) ?_
  refine va_put (D := D) (ci := 7) (v := .int p0) (ty := tyX7 7) (fs := (xfNotes ad V L Z)) (C := RX7) (T := TX7) (N := 10) hx hb hg inX7 tyX7 tyX7_ok nmX7 hown hK hP hD hS 4 xgNotes rfl 7 (by decide) (hg _ w442) (fun _ h9 => h9) rfl (tyX7_ok 7 (by decide)) rfl rfl (Nat.le_of_ble_eq_true rfl) dX7_noteCause_2 (fun H locs hP hD hS => ?_)
  obtain ⟨V1, hV1⟩ : ∃ z, z = up2 V 4 7 p0 := ⟨_, rfl⟩
  have ew2 : (xw ad kk V L Z).set 4 ((ad 4), .inr (7, (xfNotes ad V L Z).set 7 (.int p0))) = xw ad kk V1 L Z := by rw [hV1]; exact xw_ss (by decide) rfl (xb_si (by decide))
  have hP : va_P D vwCl (xw ad kk V1 L Z) H := by rw [← ew2]; exact hP
  have hD : va_D A (xw ad kk V1 L Z) := by rw [← ew2]; exact hD
  have hMV1 : rgd bX V1 := hMV.put hV1 (i_full _)
  have agV1 : agr [(4, 7), (4, 8)] [] V V1 := agV.up hV1 rfl
  refine lv_aload_n hx hb dX7_noteCause_5 rfl (lv_at hl 0 rfl) ?_
  refine lv_iload_n hx hb dX7_noteCause_6 rfl (lv_at hl 2 rfl) ?_
  refine va_put (D := D) (ci := 7) (v := .int p1) (ty := tyX7 8) (fs := (xfNotes ad V1 L Z)) (C := RX7) (T := TX7) (N := 10) hx hb hg inX7 tyX7 tyX7_ok nmX7 hown hK hP hD hS 4 xgNotes rfl 8 (by decide) (hg _ w443) (fun _ h9 => h9) rfl (tyX7_ok 8 (by decide)) rfl rfl (Nat.le_of_ble_eq_true rfl) dX7_noteCause_7 (fun H locs hP hD hS => ?_)
  obtain ⟨V3, hV3⟩ : ∃ z, z = up2 V1 4 8 p1 := ⟨_, rfl⟩
  have ew4 : (xw ad kk V1 L Z).set 4 ((ad 4), .inr (7, (xfNotes ad V1 L Z).set 8 (.int p1))) = xw ad kk V3 L Z := by rw [hV3]; exact xw_ss (by decide) rfl (xb_si (by decide))
  have hP : va_P D vwCl (xw ad kk V3 L Z) H := by rw [← ew4]; exact hP
  have hD : va_D A (xw ad kk V3 L Z) := by rw [← ew4]; exact hD
  have hMV3 : rgd bX V3 := hMV1.put hV3 (i_full _)
  have agV3 : agr [(4, 7), (4, 8)] [] V V3 := agV1.up hV3 rfl
  exact W.vret hx hb hr (fun t ht hW => ⟨⟨(V3, L), rfl, ⟨hMV3, agV3, rfl⟩, by rw [ht]; exact hP, va_K.moved hW.alike hK, hD⟩, hS.F ht⟩) hS.2.2 dX7_noteCause_10
abbrev r_x_NkindOfCause : Room := { frames := 0, cells := 0, slots := 0, locals := 0 }
abbrev q_x_NkindOfCause (D : va_G) (ks : KS) (ad : Nat → Nat) (kk : Nat → ClassId) (V : Vf) (L : Lf) (Z : XZ) (p0 : Int32) (A : Nat → Prop) : Array Value → State → Outcome → State → Prop := va_Qi (fun (r : Int32) (_ : Unit) => True) (fun _ t => gq D A (xw ad kk V L Z) (xty kk Z) t) A
end
