/-! the class: its world as a function of numbers. Z: the frames made so far, and the links, which grow -/
abbrev XZ : Type := (Nat → Nat) × Nat × Nat × Nat × ClassId × ClassId × Nat
def XZ.fa (Z : XZ) : Nat → Nat := Z.1
def XZ.nf (Z : XZ) : Nat := Z.2.1
def XZ.l1 (Z : XZ) : Nat := Z.2.2.1
def XZ.l2 (Z : XZ) : Nat := Z.2.2.2.1
def XZ.k1 (Z : XZ) : ClassId := Z.2.2.2.2.1
def XZ.k2 (Z : XZ) : ClassId := Z.2.2.2.2.2.1
def XZ.ln (Z : XZ) : Nat := Z.2.2.2.2.2.2
def rfN (ad : Nat → Nat) (b : Nat) (x : Int32) : Value := if x.toInt < 0 then .null else .ref (ad (b + Int32.toNatClampNeg x))
def xcap (n : Nat) : Nat := match n % 5 with
  | 0 => 24
  | 1 => 12
  | 2 => 24
  | _ => 20
def xfHouse (ad : Nat → Nat) (V : Vf) (L : Lf) (Z : XZ) : List Value := [.ref (ad 6), .ref (ad 1), .ref (ad 2), .ref (ad 3), .ref (ad 4), .ref (ad 5), .ref (ad (38 + Int32.toNatClampNeg (V 0 6))), .ref (ad (38 + Int32.toNatClampNeg (V 0 7))), .int (V 0 8), .int (V 0 9)]
def xfReader (ad : Nat → Nat) (V : Vf) (L : Lf) (Z : XZ) : List Value := [.ref (ad 6), rfN ad 38 (V 1 1), rfN ad 72 (V 1 2), .int (V 1 3), .int (V 1 4), .long (L 1 5), .int (V 1 6), .int (V 1 7), .int (V 1 8)]
def xfChecker (ad : Nat → Nat) (V : Vf) (L : Lf) (Z : XZ) : List Value := [.ref (ad 12), .ref (ad 13), .ref (ad 14), .ref (ad 15), .ref (ad 16), .ref (ad 17), rfN ad 38 (V 2 6), .int (V 2 7)]
def xfStock (ad : Nat → Nat) (V : Vf) (L : Lf) (Z : XZ) : List Value := [.ref (ad 18), .ref (ad 19), .ref (ad 20), .ref (ad 21), .ref (ad 22), .ref (ad 23), .ref (ad 24), .ref (ad 25), .ref (ad 26), .ref (ad 27), .ref Z.l1, .ref Z.l2, .int (V 3 12), .int (V 3 13), .int (V 3 14), .int (V 3 15)]
def xfNotes (ad : Nat → Nat) (V : Vf) (L : Lf) (Z : XZ) : List Value := [.ref (ad 30), .ref (ad 31), .ref (ad 32), .ref (ad 33), .ref (ad 34), .int (V 4 5), .int (V 4 6), .int (V 4 7), .int (V 4 8), .int (V 4 9)]
def xfMachine (ad : Nat → Nat) (V : Vf) (L : Lf) (Z : XZ) : List Value := [.ref (ad 3), .ref (ad 4), .ref (ad 35), .ref (ad 36), .ref (ad 37), .ref (ad (38 + Int32.toNatClampNeg (V 5 5))), .int (V 5 6), .int (V 5 7), .int (V 5 8), .int (V 5 9), .int (V 5 10), .int (V 5 11), .int (V 5 12), .int (V 5 13), .int (V 5 14)]
def xfTape (ad : Nat → Nat) (V : Vf) (L : Lf) (Z : XZ) : List Value := [.ref (ad 7), .ref (ad 8), .ref (ad 9), .ref (ad 10), .ref (ad 11), .int (V 6 5), .int (V 6 6), .int (V 6 7), .int (V 6 8), .int (V 6 9), .int (V 6 10), .long (L 6 11)]
def xfBook (ad : Nat → Nat) (V : Vf) (i : Nat) : List Value := [.ref (ad (40 + (5 * i + 0))), .ref (ad (40 + (5 * i + 1))), .ref (ad (40 + (5 * i + 2))), .ref (ad (40 + (5 * i + 3))), .ref (ad (40 + (5 * i + 4))), .ref (ad (60 + i)), .ref (ad (62 + i)), .ref (ad (64 + i)), .ref (ad (66 + i)), .ref (ad (68 + i)), .ref (ad (70 + i)), .int (V 41 i), .int (V 42 i)]
def xfNames (ad : Nat → Nat) (V : Vf) (i : Nat) : List Value := [.ref (ad (50 + i)), .int (V 43 i)]
def xfComp (ad : Nat → Nat) (V : Vf) (i : Nat) : List Value := [.ref (ad (120 + i)), .ref (ad (168 + i)), .ref (ad (216 + i)), .ref (ad (264 + i)), .int (V 49 i), .int (V 50 i), .int (V 51 i), .int (V 52 i), .int (V 53 i), .int (V 54 i), .int (V 55 i), .int (V 56 i), .int (V 57 i)]
def xfWrap (V : Vf) (i : Nat) : List Value := [.int (V 62 i), .int (V 63 i), .int (V 64 i), .int (V 65 i), .int (V 66 i)]
def xfFrame (V : Vf) (i : Nat) : List Value := [.int (V 67 i), .int (V 68 i), .int (V 69 i), .int (V 70 i), .int (V 71 i), .int (V 72 i), .int (V 73 i), .int (V 74 i), .int (V 75 i), .int (V 76 i), .int (V 77 i), .int (V 78 i), .int (V 79 i), .int (V 80 i), .int (V 81 i), .int (V 82 i), .int (V 83 i), .int (V 84 i), .int (V 85 i)]
def xs (ad : Nat → Nat) (kk : Nat → ClassId) (V : Vf) (L : Lf) (Z : XZ) : va_W := (ad 0, .inr (11, xfHouse ad V L Z)) :: (ad 1, .inr (1, xfReader ad V L Z)) :: (ad 2, .inr (2, xfChecker ad V L Z)) :: (ad 3, .inr (8, xfStock ad V L Z)) :: (ad 4, .inr (7, xfNotes ad V L Z)) :: (ad 5, .inr (5, xfMachine ad V L Z)) :: (ad 6, .inr (9, xfTape ad V L Z)) :: (ad 7, .inl (kk 7, 4000, .inl (V 10))) :: (ad 8, .inl (kk 8, 28, .inr (.inl (L 11)))) :: (ad 9, .inl (kk 9, 4001, .inl (V 12))) :: (ad 10, .inl (kk 10, 4001, .inl (V 13))) :: (ad 11, .inl (kk 11, 4001, .inr (.inl (L 14)))) :: (ad 12, .inl (kk 12, 100, .inl (V 15))) :: (ad 13, .inl (kk 13, 100, .inl (V 16))) :: (ad 14, .inl (kk 14, 100, .inl (V 17))) :: (ad 15, .inl (kk 15, 2400, .inl (V 18))) :: (ad 16, .inl (kk 16, 24, .inl (V 19))) :: (ad 17, .inl (kk 17, 24, .inl (V 20))) :: (ad 18, .inl (kk 18, 40, .inl (V 21))) :: (ad 19, .inl (kk 19, 40, .inl (V 22))) :: (ad 20, .inl (kk 20, 40, .inl (V 23))) :: (ad 21, .inl (kk 21, 40, .inl (V 24))) :: (ad 22, .inl (kk 22, 960, .inl (V 25))) :: (ad 23, .inl (kk 23, 300, .inl (V 26))) :: (ad 24, .inl (kk 24, 300, .inl (V 27))) :: (ad 25, .inl (kk 25, 300, .inl (V 28))) :: (ad 26, .inl (kk 26, 300, .inl (V 29))) :: (ad 27, .inl (kk 27, 2400, .inl (V 30))) :: (Z.l1, .inl (Z.k1, Z.ln, .inl (V 31))) :: (Z.l2, .inl (Z.k2, Z.ln, .inl (V 32))) :: (ad 30, .inl (kk 30, 100, .inl (V 33))) :: (ad 31, .inl (kk 31, 100, .inl (V 34))) :: (ad 32, .inl (kk 32, 100, .inl (V 35))) :: (ad 33, .inl (kk 33, 300, .inl (V 36))) :: (ad 34, .inl (kk 34, 300, .inl (V 37))) :: (ad 35, .inl (kk 35, 400, .inr (.inr (.inr (.inr (fun q => if q < Z.nf then some (Z.fa q) else none)))))) :: (ad 36, .inl (kk 36, 2048, .inl (V 39))) :: (ad 37, .inl (kk 37, 300, .inl (V 40))) :: []
def xeBook (ad : Nat → Nat) (kk : Nat → ClassId) (V : Vf) (L : Lf) (Z : XZ) (i : Nat) : Nat × va_E := (ad (38 + i), .inr (0, xfBook ad V i))
def xeNames (ad : Nat → Nat) (kk : Nat → ClassId) (V : Vf) (L : Lf) (Z : XZ) (i : Nat) : Nat × va_E := (ad (40 + i), .inr (6, xfNames ad V i))
def xewords (ad : Nat → Nat) (kk : Nat → ClassId) (V : Vf) (L : Lf) (Z : XZ) (i : Nat) : Nat × va_E := (ad (50 + i), .inl (kk (50 + i), xcap i, .inr (.inl (fun q => if q < 24 then L 44 (24 * i + q) else 0))))
def xetypeUnder (ad : Nat → Nat) (kk : Nat → ClassId) (V : Vf) (L : Lf) (Z : XZ) (i : Nat) : Nat × va_E := (ad (60 + i), .inl (kk (60 + i), 24, .inl (fun q => if q < 24 then V 45 (24 * i + q) else 0)))
def xesettingValues (ad : Nat → Nat) (kk : Nat → ClassId) (V : Vf) (L : Lf) (Z : XZ) (i : Nat) : Nat × va_E := (ad (62 + i), .inl (kk (62 + i), 12, .inl (fun q => if q < 12 then V 46 (12 * i + q) else 0)))
def xecomps (ad : Nat → Nat) (kk : Nat → ClassId) (V : Vf) (L : Lf) (Z : XZ) (i : Nat) : Nat × va_E := (ad (64 + i), .inl (kk (64 + i), 24, .inr (.inr (.inr (.inr (fun q => if q < 24 then some (ad (72 + (24 * i + q))) else none))))))
def xewrapsA (ad : Nat → Nat) (kk : Nat → ClassId) (V : Vf) (L : Lf) (Z : XZ) (i : Nat) : Nat × va_E := (ad (66 + i), .inl (kk (66 + i), 12, .inr (.inr (.inr (.inr (fun q => if q < 12 then some (ad (312 + (12 * i + q))) else none))))))
def xewrapOrder (ad : Nat → Nat) (kk : Nat → ClassId) (V : Vf) (L : Lf) (Z : XZ) (i : Nat) : Nat × va_E := (ad (68 + i), .inl (kk (68 + i), 12, .inl (fun q => if q < 12 then V 47 (12 * i + q) else 0)))
def xecode (ad : Nat → Nat) (kk : Nat → ClassId) (V : Vf) (L : Lf) (Z : XZ) (i : Nat) : Nat × va_E := (ad (70 + i), .inl (kk (70 + i), 8200, .inl (fun q => if q < 8200 then V 48 (8200 * i + q) else 0)))
def xeComp (ad : Nat → Nat) (kk : Nat → ClassId) (V : Vf) (L : Lf) (Z : XZ) (i : Nat) : Nat × va_E := (ad (72 + i), .inr (3, xfComp ad V i))
def xeneedTypes (ad : Nat → Nat) (kk : Nat → ClassId) (V : Vf) (L : Lf) (Z : XZ) (i : Nat) : Nat × va_E := (ad (120 + i), .inl (kk (120 + i), 8, .inl (fun q => if q < 8 then V 58 (8 * i + q) else 0)))
def xeneedWords (ad : Nat → Nat) (kk : Nat → ClassId) (V : Vf) (L : Lf) (Z : XZ) (i : Nat) : Nat × va_E := (ad (168 + i), .inl (kk (168 + i), 8, .inl (fun q => if q < 8 then V 59 (8 * i + q) else 0)))
def xeneedKinds (ad : Nat → Nat) (kk : Nat → ClassId) (V : Vf) (L : Lf) (Z : XZ) (i : Nat) : Nat × va_E := (ad (216 + i), .inl (kk (216 + i), 8, .inl (fun q => if q < 8 then V 60 (8 * i + q) else 0)))
def xemethodStarts (ad : Nat → Nat) (kk : Nat → ClassId) (V : Vf) (L : Lf) (Z : XZ) (i : Nat) : Nat × va_E := (ad (264 + i), .inl (kk (264 + i), 20, .inl (fun q => if q < 20 then V 61 (20 * i + q) else 0)))
def xeWrap (ad : Nat → Nat) (kk : Nat → ClassId) (V : Vf) (L : Lf) (Z : XZ) (i : Nat) : Nat × va_E := (ad (312 + i), .inr (10, xfWrap V i))
def xeFrame (ad : Nat → Nat) (kk : Nat → ClassId) (V : Vf) (L : Lf) (Z : XZ) (i : Nat) : Nat × va_E := (Z.fa i, .inr (4, xfFrame V i))
def xb (ad : Nat → Nat) (kk : Nat → ClassId) (V : Vf) (L : Lf) (Z : XZ) (j : Nat) : Nat × va_E :=
  if j < 2 then xeBook ad kk V L Z j else
  if j < 12 then xeNames ad kk V L Z (j - 2) else
  if j < 22 then xewords ad kk V L Z (j - 12) else
  if j < 24 then xetypeUnder ad kk V L Z (j - 22) else
  if j < 26 then xesettingValues ad kk V L Z (j - 24) else
  if j < 28 then xecomps ad kk V L Z (j - 26) else
  if j < 30 then xewrapsA ad kk V L Z (j - 28) else
  if j < 32 then xewrapOrder ad kk V L Z (j - 30) else
  if j < 34 then xecode ad kk V L Z (j - 32) else
  if j < 82 then xeComp ad kk V L Z (j - 34) else
  if j < 130 then xeneedTypes ad kk V L Z (j - 82) else
  if j < 178 then xeneedWords ad kk V L Z (j - 130) else
  if j < 226 then xeneedKinds ad kk V L Z (j - 178) else
  if j < 274 then xemethodStarts ad kk V L Z (j - 226) else
  if j < 298 then xeWrap ad kk V L Z (j - 274) else xeFrame ad kk V L Z (j - 298)
def xw (ad : Nat → Nat) (kk : Nat → ClassId) (V : Vf) (L : Lf) (Z : XZ) : va_W := xs ad kk V L Z ++ (List.range (298 + Z.nf)).map (xb ad kk V L Z)
def xts (kk : Nat → ClassId) (Z : XZ) : List (ClassId × FieldType) := (kk 7, .byte) :: (kk 8, .long) :: (kk 9, .int) :: (kk 10, .int) :: (kk 11, .long) :: (kk 12, .int) :: (kk 13, .int) :: (kk 14, .int) :: (kk 15, .int) :: (kk 16, .int) :: (kk 17, .int) :: (kk 18, .int) :: (kk 19, .int) :: (kk 20, .boolean) :: (kk 21, .int) :: (kk 22, .int) :: (kk 23, .int) :: (kk 24, .int) :: (kk 25, .int) :: (kk 26, .int) :: (kk 27, .int) :: (Z.k1, .int) :: (Z.k2, .int) :: (kk 30, .int) :: (kk 31, .int) :: (kk 32, .int) :: (kk 33, .int) :: (kk 34, .int) :: (kk 35, .object RX4) :: (kk 36, .int) :: (kk 37, .int) :: []
def xty (kk : Nat → ClassId) (Z : XZ) : List (ClassId × FieldType) := xts kk Z ++ (List.range 298).map (fun j => (kk (38 + j), if 12 ≤ j ∧ j < 22 then FieldType.long else if 26 ≤ j ∧ j < 28 then .object RX3 else if 28 ≤ j ∧ j < 30 then .object RX10 else .int))
theorem up2_ne {V : Vf} {c k c' : Nat} {v : Int32} (h : c' ≠ c) : up2 V c k v c' = V c' := by
  unfold up2
  rw [if_neg h]
theorem up2_pl {V : Vf} {c k c' k' : Nat} {v : Int32} (h : ¬ (c' = c ∧ k' = k)) : up2 V c k v c' k' = V c' k' := by
  by_cases hc : c' = c
  · subst hc
    exact up2_k rfl (fun e => h ⟨rfl, e⟩)
  · exact up2_o rfl hc
theorem up2_ss {V : Vf} {c k : Nat} {v : Int32} : up2 V c k v c k = v := up2_s rfl
theorem upL_pl {L : Lf} {c k c' k' : Nat} {v : Int64} (h : ¬ (c' = c ∧ k' = k)) : upL L c k v c' k' = L c' k' := by
  unfold upL
  by_cases hc : c' = c
  · rw [if_pos hc]
    unfold vp_updL
    rw [if_neg (fun e => h ⟨hc, e⟩)]
  · rw [if_neg hc]
/-- to which of the many a place belongs -/
def xow (c k : Nat) : Option Nat :=
  if 41 ≤ c ∧ c ≤ 42 then some (k) else
  if c = 43 then some (2 + k) else
  if c = 45 then some (22 + k / 24) else
  if c = 46 then some (24 + k / 12) else
  if c = 47 then some (30 + k / 12) else
  if c = 48 then some (32 + k / 8200) else
  if 49 ≤ c ∧ c ≤ 57 then some (34 + k) else
  if c = 58 then some (82 + k / 8) else
  if c = 59 then some (130 + k / 8) else
  if c = 60 then some (178 + k / 8) else
  if c = 61 then some (226 + k / 20) else
  if 62 ≤ c ∧ c ≤ 66 then some (274 + k) else
  if 67 ≤ c ∧ c ≤ 85 then some (298 + k) else none
theorem xeBook_up {ad : Nat → Nat} {kk : Nat → ClassId} {V : Vf} {L : Lf} {Z : XZ} {c k : Nat} {v : Int32} {i : Nat} (h : xow c k ≠ some (i)) : xeBook ad kk (up2 V c k v) L Z i = xeBook ad kk V L Z i := by
  unfold xeBook xfBook
  have e : ∀ c', True → xow c' i = some (i) → up2 V c k v c' i = V c' i := fun c' _ h2 => up2_pl (fun a => h (by rw [← a.1, ← a.2]; exact h2))
  rw [e 41 trivial rfl, e 42 trivial rfl]
theorem xeNames_up {ad : Nat → Nat} {kk : Nat → ClassId} {V : Vf} {L : Lf} {Z : XZ} {c k : Nat} {v : Int32} {i : Nat} (h : xow c k ≠ some (2 + i)) : xeNames ad kk (up2 V c k v) L Z i = xeNames ad kk V L Z i := by
  unfold xeNames xfNames
  have e : ∀ c', True → xow c' i = some (2 + i) → up2 V c k v c' i = V c' i := fun c' _ h2 => up2_pl (fun a => h (by rw [← a.1, ← a.2]; exact h2))
  rw [e 43 trivial rfl]
theorem xewords_up {ad : Nat → Nat} {kk : Nat → ClassId} {V : Vf} {L : Lf} {Z : XZ} {c k : Nat} {v : Int32} {i : Nat} : xewords ad kk (up2 V c k v) L Z i = xewords ad kk V L Z i := rfl
theorem xetypeUnder_up {ad : Nat → Nat} {kk : Nat → ClassId} {V : Vf} {L : Lf} {Z : XZ} {c k : Nat} {v : Int32} {i : Nat} (h : xow c k ≠ some (22 + i)) : xetypeUnder ad kk (up2 V c k v) L Z i = xetypeUnder ad kk V L Z i := by
  unfold xetypeUnder
  have e : (fun q => if q < 24 then up2 V c k v 45 (24 * i + q) else 0) = (fun q => if q < 24 then V 45 (24 * i + q) else 0) := by
    funext q
    by_cases hq : q < 24
    · rw [if_pos hq, if_pos hq]
      refine up2_pl (fun a => h ?_)
      rw [← a.1, ← a.2]
      show some (22 + (24 * i + q) / 24) = some (22 + i)
      have e2 : (24 * i + q) / 24 = i := by omega
      rw [e2]
    · rw [if_neg hq, if_neg hq]
  rw [e]
theorem xesettingValues_up {ad : Nat → Nat} {kk : Nat → ClassId} {V : Vf} {L : Lf} {Z : XZ} {c k : Nat} {v : Int32} {i : Nat} (h : xow c k ≠ some (24 + i)) : xesettingValues ad kk (up2 V c k v) L Z i = xesettingValues ad kk V L Z i := by
  unfold xesettingValues
  have e : (fun q => if q < 12 then up2 V c k v 46 (12 * i + q) else 0) = (fun q => if q < 12 then V 46 (12 * i + q) else 0) := by
    funext q
    by_cases hq : q < 12
    · rw [if_pos hq, if_pos hq]
      refine up2_pl (fun a => h ?_)
      rw [← a.1, ← a.2]
      show some (24 + (12 * i + q) / 12) = some (24 + i)
      have e2 : (12 * i + q) / 12 = i := by omega
      rw [e2]
    · rw [if_neg hq, if_neg hq]
  rw [e]
theorem xecomps_up {ad : Nat → Nat} {kk : Nat → ClassId} {V : Vf} {L : Lf} {Z : XZ} {c k : Nat} {v : Int32} {i : Nat} : xecomps ad kk (up2 V c k v) L Z i = xecomps ad kk V L Z i := rfl
theorem xewrapsA_up {ad : Nat → Nat} {kk : Nat → ClassId} {V : Vf} {L : Lf} {Z : XZ} {c k : Nat} {v : Int32} {i : Nat} : xewrapsA ad kk (up2 V c k v) L Z i = xewrapsA ad kk V L Z i := rfl
theorem xewrapOrder_up {ad : Nat → Nat} {kk : Nat → ClassId} {V : Vf} {L : Lf} {Z : XZ} {c k : Nat} {v : Int32} {i : Nat} (h : xow c k ≠ some (30 + i)) : xewrapOrder ad kk (up2 V c k v) L Z i = xewrapOrder ad kk V L Z i := by
  unfold xewrapOrder
  have e : (fun q => if q < 12 then up2 V c k v 47 (12 * i + q) else 0) = (fun q => if q < 12 then V 47 (12 * i + q) else 0) := by
    funext q
    by_cases hq : q < 12
    · rw [if_pos hq, if_pos hq]
      refine up2_pl (fun a => h ?_)
      rw [← a.1, ← a.2]
      show some (30 + (12 * i + q) / 12) = some (30 + i)
      have e2 : (12 * i + q) / 12 = i := by omega
      rw [e2]
    · rw [if_neg hq, if_neg hq]
  rw [e]
theorem xecode_up {ad : Nat → Nat} {kk : Nat → ClassId} {V : Vf} {L : Lf} {Z : XZ} {c k : Nat} {v : Int32} {i : Nat} (h : xow c k ≠ some (32 + i)) : xecode ad kk (up2 V c k v) L Z i = xecode ad kk V L Z i := by
  unfold xecode
  have e : (fun q => if q < 8200 then up2 V c k v 48 (8200 * i + q) else 0) = (fun q => if q < 8200 then V 48 (8200 * i + q) else 0) := by
    funext q
    by_cases hq : q < 8200
    · rw [if_pos hq, if_pos hq]
      refine up2_pl (fun a => h ?_)
      rw [← a.1, ← a.2]
      show some (32 + (8200 * i + q) / 8200) = some (32 + i)
      have e2 : (8200 * i + q) / 8200 = i := by omega
      rw [e2]
    · rw [if_neg hq, if_neg hq]
  rw [e]
theorem xeComp_up {ad : Nat → Nat} {kk : Nat → ClassId} {V : Vf} {L : Lf} {Z : XZ} {c k : Nat} {v : Int32} {i : Nat} (h : xow c k ≠ some (34 + i)) : xeComp ad kk (up2 V c k v) L Z i = xeComp ad kk V L Z i := by
  unfold xeComp xfComp
  have e : ∀ c', True → xow c' i = some (34 + i) → up2 V c k v c' i = V c' i := fun c' _ h2 => up2_pl (fun a => h (by rw [← a.1, ← a.2]; exact h2))
  rw [e 49 trivial rfl, e 50 trivial rfl, e 51 trivial rfl, e 52 trivial rfl, e 53 trivial rfl, e 54 trivial rfl, e 55 trivial rfl, e 56 trivial rfl, e 57 trivial rfl]
theorem xeneedTypes_up {ad : Nat → Nat} {kk : Nat → ClassId} {V : Vf} {L : Lf} {Z : XZ} {c k : Nat} {v : Int32} {i : Nat} (h : xow c k ≠ some (82 + i)) : xeneedTypes ad kk (up2 V c k v) L Z i = xeneedTypes ad kk V L Z i := by
  unfold xeneedTypes
  have e : (fun q => if q < 8 then up2 V c k v 58 (8 * i + q) else 0) = (fun q => if q < 8 then V 58 (8 * i + q) else 0) := by
    funext q
    by_cases hq : q < 8
    · rw [if_pos hq, if_pos hq]
      refine up2_pl (fun a => h ?_)
      rw [← a.1, ← a.2]
      show some (82 + (8 * i + q) / 8) = some (82 + i)
      have e2 : (8 * i + q) / 8 = i := by omega
      rw [e2]
    · rw [if_neg hq, if_neg hq]
  rw [e]
theorem xeneedWords_up {ad : Nat → Nat} {kk : Nat → ClassId} {V : Vf} {L : Lf} {Z : XZ} {c k : Nat} {v : Int32} {i : Nat} (h : xow c k ≠ some (130 + i)) : xeneedWords ad kk (up2 V c k v) L Z i = xeneedWords ad kk V L Z i := by
  unfold xeneedWords
  have e : (fun q => if q < 8 then up2 V c k v 59 (8 * i + q) else 0) = (fun q => if q < 8 then V 59 (8 * i + q) else 0) := by
    funext q
    by_cases hq : q < 8
    · rw [if_pos hq, if_pos hq]
      refine up2_pl (fun a => h ?_)
      rw [← a.1, ← a.2]
      show some (130 + (8 * i + q) / 8) = some (130 + i)
      have e2 : (8 * i + q) / 8 = i := by omega
      rw [e2]
    · rw [if_neg hq, if_neg hq]
  rw [e]
theorem xeneedKinds_up {ad : Nat → Nat} {kk : Nat → ClassId} {V : Vf} {L : Lf} {Z : XZ} {c k : Nat} {v : Int32} {i : Nat} (h : xow c k ≠ some (178 + i)) : xeneedKinds ad kk (up2 V c k v) L Z i = xeneedKinds ad kk V L Z i := by
  unfold xeneedKinds
  have e : (fun q => if q < 8 then up2 V c k v 60 (8 * i + q) else 0) = (fun q => if q < 8 then V 60 (8 * i + q) else 0) := by
    funext q
    by_cases hq : q < 8
    · rw [if_pos hq, if_pos hq]
      refine up2_pl (fun a => h ?_)
      rw [← a.1, ← a.2]
      show some (178 + (8 * i + q) / 8) = some (178 + i)
      have e2 : (8 * i + q) / 8 = i := by omega
      rw [e2]
    · rw [if_neg hq, if_neg hq]
  rw [e]
theorem xemethodStarts_up {ad : Nat → Nat} {kk : Nat → ClassId} {V : Vf} {L : Lf} {Z : XZ} {c k : Nat} {v : Int32} {i : Nat} (h : xow c k ≠ some (226 + i)) : xemethodStarts ad kk (up2 V c k v) L Z i = xemethodStarts ad kk V L Z i := by
  unfold xemethodStarts
  have e : (fun q => if q < 20 then up2 V c k v 61 (20 * i + q) else 0) = (fun q => if q < 20 then V 61 (20 * i + q) else 0) := by
    funext q
    by_cases hq : q < 20
    · rw [if_pos hq, if_pos hq]
      refine up2_pl (fun a => h ?_)
      rw [← a.1, ← a.2]
      show some (226 + (20 * i + q) / 20) = some (226 + i)
      have e2 : (20 * i + q) / 20 = i := by omega
      rw [e2]
    · rw [if_neg hq, if_neg hq]
  rw [e]
theorem xeWrap_up {ad : Nat → Nat} {kk : Nat → ClassId} {V : Vf} {L : Lf} {Z : XZ} {c k : Nat} {v : Int32} {i : Nat} (h : xow c k ≠ some (274 + i)) : xeWrap ad kk (up2 V c k v) L Z i = xeWrap ad kk V L Z i := by
  unfold xeWrap xfWrap
  have e : ∀ c', True → xow c' i = some (274 + i) → up2 V c k v c' i = V c' i := fun c' _ h2 => up2_pl (fun a => h (by rw [← a.1, ← a.2]; exact h2))
  rw [e 62 trivial rfl, e 63 trivial rfl, e 64 trivial rfl, e 65 trivial rfl, e 66 trivial rfl]
theorem xeFrame_up {ad : Nat → Nat} {kk : Nat → ClassId} {V : Vf} {L : Lf} {Z : XZ} {c k : Nat} {v : Int32} {i : Nat} (h : xow c k ≠ some (298 + i)) : xeFrame ad kk (up2 V c k v) L Z i = xeFrame ad kk V L Z i := by
  unfold xeFrame xfFrame
  have e : ∀ c', True → xow c' i = some (298 + i) → up2 V c k v c' i = V c' i := fun c' _ h2 => up2_pl (fun a => h (by rw [← a.1, ← a.2]; exact h2))
  rw [e 67 trivial rfl, e 68 trivial rfl, e 69 trivial rfl, e 70 trivial rfl, e 71 trivial rfl, e 72 trivial rfl, e 73 trivial rfl, e 74 trivial rfl, e 75 trivial rfl, e 76 trivial rfl, e 77 trivial rfl, e 78 trivial rfl, e 79 trivial rfl, e 80 trivial rfl, e 81 trivial rfl, e 82 trivial rfl, e 83 trivial rfl, e 84 trivial rfl, e 85 trivial rfl]
theorem xb_up {ad : Nat → Nat} {kk : Nat → ClassId} {V : Vf} {L : Lf} {Z : XZ} {c k : Nat} {v : Int32} {j : Nat} (h : xow c k ≠ some j) : xb ad kk (up2 V c k v) L Z j = xb ad kk V L Z j := by
  unfold xb
  by_cases h0 : j < 2
  · rw [if_pos h0, if_pos h0]
    exact xeBook_up h
  rw [if_neg h0, if_neg h0]
  by_cases h2 : j < 12
  · rw [if_pos h2, if_pos h2]
    exact xeNames_up (by rw [show 2 + (j - 2) = j from by omega]; exact h)
  rw [if_neg h2, if_neg h2]
  by_cases h12 : j < 22
  · rw [if_pos h12, if_pos h12]
    exact xewords_up
  rw [if_neg h12, if_neg h12]
  by_cases h22 : j < 24
  · rw [if_pos h22, if_pos h22]
    exact xetypeUnder_up (by rw [show 22 + (j - 22) = j from by omega]; exact h)
  rw [if_neg h22, if_neg h22]
  by_cases h24 : j < 26
  · rw [if_pos h24, if_pos h24]
    exact xesettingValues_up (by rw [show 24 + (j - 24) = j from by omega]; exact h)
  rw [if_neg h24, if_neg h24]
  by_cases h26 : j < 28
  · rw [if_pos h26, if_pos h26]
    exact xecomps_up
  rw [if_neg h26, if_neg h26]
  by_cases h28 : j < 30
  · rw [if_pos h28, if_pos h28]
    exact xewrapsA_up
  rw [if_neg h28, if_neg h28]
  by_cases h30 : j < 32
  · rw [if_pos h30, if_pos h30]
    exact xewrapOrder_up (by rw [show 30 + (j - 30) = j from by omega]; exact h)
  rw [if_neg h30, if_neg h30]
  by_cases h32 : j < 34
  · rw [if_pos h32, if_pos h32]
    exact xecode_up (by rw [show 32 + (j - 32) = j from by omega]; exact h)
  rw [if_neg h32, if_neg h32]
  by_cases h34 : j < 82
  · rw [if_pos h34, if_pos h34]
    exact xeComp_up (by rw [show 34 + (j - 34) = j from by omega]; exact h)
  rw [if_neg h34, if_neg h34]
  by_cases h82 : j < 130
  · rw [if_pos h82, if_pos h82]
    exact xeneedTypes_up (by rw [show 82 + (j - 82) = j from by omega]; exact h)
  rw [if_neg h82, if_neg h82]
  by_cases h130 : j < 178
  · rw [if_pos h130, if_pos h130]
    exact xeneedWords_up (by rw [show 130 + (j - 130) = j from by omega]; exact h)
  rw [if_neg h130, if_neg h130]
  by_cases h178 : j < 226
  · rw [if_pos h178, if_pos h178]
    exact xeneedKinds_up (by rw [show 178 + (j - 178) = j from by omega]; exact h)
  rw [if_neg h178, if_neg h178]
  by_cases h226 : j < 274
  · rw [if_pos h226, if_pos h226]
    exact xemethodStarts_up (by rw [show 226 + (j - 226) = j from by omega]; exact h)
  rw [if_neg h226, if_neg h226]
  by_cases h274 : j < 298
  · rw [if_pos h274, if_pos h274]
    exact xeWrap_up (by rw [show 274 + (j - 274) = j from by omega]; exact h)
  rw [if_neg h274, if_neg h274]
  exact xeFrame_up (by rw [show 298 + (j - 298) = j from by omega]; exact h)
theorem xe_L {ad : Nat → Nat} {kk : Nat → ClassId} {V : Vf} {L : Lf} {Z : XZ} {c k : Nat} {v : Int64} {j : Nat} (h : ¬ (c = 44 ∧ 12 + k / 24 = j)) : xb ad kk V (upL L c k v) Z j = xb ad kk V L Z j := by
  unfold xb
  by_cases h0 : j < 2
  · rw [if_pos h0, if_pos h0]
    rfl
  rw [if_neg h0, if_neg h0]
  by_cases h2 : j < 12
  · rw [if_pos h2, if_pos h2]
    rfl
  rw [if_neg h2, if_neg h2]
  by_cases h12 : j < 22
  · rw [if_pos h12, if_pos h12]
    unfold xewords
    have e : (fun q => if q < 24 then upL L c k v 44 (24 * (j - 12) + q) else 0) = (fun q => if q < 24 then L 44 (24 * (j - 12) + q) else 0) := by
      funext q
      by_cases hq : q < 24
      · rw [if_pos hq, if_pos hq]
        exact upL_pl (fun a => h ⟨a.1.symm, by rw [← a.2]; omega⟩)
      · rw [if_neg hq, if_neg hq]
    rw [e]
  rw [if_neg h12, if_neg h12]
  by_cases h22 : j < 24
  · rw [if_pos h22, if_pos h22]
    rfl
  rw [if_neg h22, if_neg h22]
  by_cases h24 : j < 26
  · rw [if_pos h24, if_pos h24]
    rfl
  rw [if_neg h24, if_neg h24]
  by_cases h26 : j < 28
  · rw [if_pos h26, if_pos h26]
    rfl
  rw [if_neg h26, if_neg h26]
  by_cases h28 : j < 30
  · rw [if_pos h28, if_pos h28]
    rfl
  rw [if_neg h28, if_neg h28]
  by_cases h30 : j < 32
  · rw [if_pos h30, if_pos h30]
    rfl
  rw [if_neg h30, if_neg h30]
  by_cases h32 : j < 34
  · rw [if_pos h32, if_pos h32]
    rfl
  rw [if_neg h32, if_neg h32]
  by_cases h34 : j < 82
  · rw [if_pos h34, if_pos h34]
    rfl
  rw [if_neg h34, if_neg h34]
  by_cases h82 : j < 130
  · rw [if_pos h82, if_pos h82]
    rfl
  rw [if_neg h82, if_neg h82]
  by_cases h130 : j < 178
  · rw [if_pos h130, if_pos h130]
    rfl
  rw [if_neg h130, if_neg h130]
  by_cases h178 : j < 226
  · rw [if_pos h178, if_pos h178]
    rfl
  rw [if_neg h178, if_neg h178]
  by_cases h226 : j < 274
  · rw [if_pos h226, if_pos h226]
    rfl
  rw [if_neg h226, if_neg h226]
  by_cases h274 : j < 298
  · rw [if_pos h274, if_pos h274]
    rfl
  rw [if_neg h274, if_neg h274]
  rfl
theorem xs_up {ad : Nat → Nat} {kk : Nat → ClassId} {V : Vf} {L : Lf} {Z : XZ} {c k : Nat} {v : Int32} (h : 40 < c) : xs ad kk (up2 V c k v) L Z = xs ad kk V L Z := by
  have e : ∀ c', c' ≤ 40 → up2 V c k v c' = V c' := fun c' hc => up2_ne (by omega)
  unfold xs xfHouse xfReader xfChecker xfStock xfNotes xfMachine xfTape
  rw [e 0 (by decide), e 1 (by decide), e 2 (by decide), e 3 (by decide), e 4 (by decide), e 5 (by decide), e 6 (by decide), e 10 (by decide), e 12 (by decide), e 13 (by decide), e 15 (by decide), e 16 (by decide), e 17 (by decide), e 18 (by decide), e 19 (by decide), e 20 (by decide), e 21 (by decide), e 22 (by decide), e 23 (by decide), e 24 (by decide), e 25 (by decide), e 26 (by decide), e 27 (by decide), e 28 (by decide), e 29 (by decide), e 30 (by decide), e 31 (by decide), e 32 (by decide), e 33 (by decide), e 34 (by decide), e 35 (by decide), e 36 (by decide), e 37 (by decide), e 39 (by decide), e 40 (by decide)]
theorem xs_L {ad : Nat → Nat} {kk : Nat → ClassId} {V : Vf} {L : Lf} {Z : XZ} {k : Nat} {v : Int64} : xs ad kk V (upL L 44 k v) Z = xs ad kk V L Z := rfl
theorem xw_b {ad : Nat → Nat} {kk : Nat → ClassId} {V : Vf} {L : Lf} {Z : XZ} {j : Nat} (h : j < 298 + Z.nf) : (xw ad kk V L Z)[38 + j]? = some (xb ad kk V L Z j) := by
  unfold xw
  rw [List.getElem?_append_right (show (xs ad kk V L Z).length ≤ 38 + j from Nat.le_add_right 38 j), show 38 + j - (xs ad kk V L Z).length = j from Nat.add_sub_cancel_left 38 j, List.getElem?_map, List.getElem?_range h]
  rfl
theorem xt_b {kk : Nat → ClassId} {Z : XZ} {j : Nat} (h : j < 298) : (xty kk Z)[31 + j]? = some (kk (38 + j), if 12 ≤ j ∧ j < 22 then FieldType.long else if 26 ≤ j ∧ j < 28 then .object RX3 else if 28 ≤ j ∧ j < 30 then .object RX10 else .int) := by
  unfold xty
  rw [List.getElem?_append_right (show (xts kk Z).length ≤ 31 + j from Nat.le_add_right 31 j), show 31 + j - (xts kk Z).length = j from Nat.add_sub_cancel_left 31 j, List.getElem?_map, List.getElem?_range h]
  rfl
theorem xw_ss {ad : Nat → Nat} {kk : Nat → ClassId} {V : Vf} {L : Lf} {Z : XZ} {V' : Vf} {L' : Lf} {p : Nat} {y : Nat × va_E} (hp : p < 38) (h : (xs ad kk V L Z).set p y = xs ad kk V' L' Z) (hb : ∀ j, xb ad kk V' L' Z j = xb ad kk V L Z j) : (xw ad kk V L Z).set p y = xw ad kk V' L' Z := by
  unfold xw
  rw [List.set_append_left _ _ (show p < (xs ad kk V L Z).length from hp), h]
  have e : xb ad kk V' L' Z = xb ad kk V L Z := funext hb
  rw [e]
theorem xw_bs {ad : Nat → Nat} {kk : Nat → ClassId} {V : Vf} {L : Lf} {Z : XZ} {V' : Vf} {L' : Lf} {j : Nat} {y : Nat × va_E} (hj : j < 298 + Z.nf) (hs : xs ad kk V' L' Z = xs ad kk V L Z) (hy : xb ad kk V' L' Z j = y) (hb : ∀ i, i ≠ j → xb ad kk V' L' Z i = xb ad kk V L Z i) : (xw ad kk V L Z).set (38 + j) y = xw ad kk V' L' Z := by
  unfold xw
  rw [List.set_append_right _ _ (show (xs ad kk V L Z).length ≤ 38 + j from Nat.le_add_right 38 j), show 38 + j - (xs ad kk V L Z).length = j from Nat.add_sub_cancel_left 38 j, hs]
  congr 1
  refine List.ext_getElem? (fun i => ?_)
  rw [List.getElem?_set]
  by_cases hi : i < 298 + Z.nf
  · have e1 : ((List.range (298 + Z.nf)).map (xb ad kk V' L' Z))[i]? = some (xb ad kk V' L' Z i) := by rw [List.getElem?_map, List.getElem?_range hi]; rfl
    have e2 : ((List.range (298 + Z.nf)).map (xb ad kk V L Z))[i]? = some (xb ad kk V L Z i) := by rw [List.getElem?_map, List.getElem?_range hi]; rfl
    rw [e1, e2]
    by_cases hij : j = i
    · subst hij
      rw [if_pos rfl, if_pos (by rw [List.length_map, List.length_range]; exact hi), hy]
    · rw [if_neg hij, hb i (fun e => hij e.symm)]
  · have e1 : ((List.range (298 + Z.nf)).map (xb ad kk V' L' Z))[i]? = none := List.getElem?_eq_none (by rw [List.length_map, List.length_range]; omega)
    have e2 : ((List.range (298 + Z.nf)).map (xb ad kk V L Z))[i]? = none := List.getElem?_eq_none (by rw [List.length_map, List.length_range]; omega)
    rw [e1]
    by_cases hij : j = i
    · omega
    · rw [if_neg hij, e2]
theorem xjBook {ad : Nat → Nat} {kk : Nat → ClassId} {V : Vf} {L : Lf} {Z : XZ} {i : Nat} (h : i < 2) : xb ad kk V L Z i = xeBook ad kk V L Z i := by
  unfold xb
  rw [if_pos h]
theorem xgBook {ad : Nat → Nat} {kk : Nat → ClassId} {V : Vf} {L : Lf} {Z : XZ} {i : Nat} (h : i < 2) : (xw ad kk V L Z)[38 + i]? = some (xeBook ad kk V L Z i) := by
  have e := xw_b (ad := ad) (kk := kk) (V := V) (L := L) (Z := Z) (j := i) (by omega)
  rw [xjBook h] at e
  exact e
theorem xjNames {ad : Nat → Nat} {kk : Nat → ClassId} {V : Vf} {L : Lf} {Z : XZ} {i : Nat} (h : i < 10) : xb ad kk V L Z (2 + i) = xeNames ad kk V L Z i := by
  unfold xb
  rw [if_neg (show ¬ 2 + i < 2 by omega), if_pos (show 2 + i < 12 by omega), Nat.add_sub_cancel_left]
theorem xgNames {ad : Nat → Nat} {kk : Nat → ClassId} {V : Vf} {L : Lf} {Z : XZ} {i : Nat} (h : i < 10) : (xw ad kk V L Z)[40 + i]? = some (xeNames ad kk V L Z i) := by
  have e := xw_b (ad := ad) (kk := kk) (V := V) (L := L) (Z := Z) (j := 2 + i) (by omega)
  rw [xjNames h] at e
  rw [show 40 + i = 38 + (2 + i) from by omega]
  exact e
theorem xjwords {ad : Nat → Nat} {kk : Nat → ClassId} {V : Vf} {L : Lf} {Z : XZ} {i : Nat} (h : i < 10) : xb ad kk V L Z (12 + i) = xewords ad kk V L Z i := by
  unfold xb
  rw [if_neg (show ¬ 12 + i < 2 by omega), if_neg (show ¬ 12 + i < 12 by omega), if_pos (show 12 + i < 22 by omega), Nat.add_sub_cancel_left]
theorem xgwords {ad : Nat → Nat} {kk : Nat → ClassId} {V : Vf} {L : Lf} {Z : XZ} {i : Nat} (h : i < 10) : (xw ad kk V L Z)[50 + i]? = some (xewords ad kk V L Z i) := by
  have e := xw_b (ad := ad) (kk := kk) (V := V) (L := L) (Z := Z) (j := 12 + i) (by omega)
  rw [xjwords h] at e
  rw [show 50 + i = 38 + (12 + i) from by omega]
  exact e
theorem xjtypeUnder {ad : Nat → Nat} {kk : Nat → ClassId} {V : Vf} {L : Lf} {Z : XZ} {i : Nat} (h : i < 2) : xb ad kk V L Z (22 + i) = xetypeUnder ad kk V L Z i := by
  unfold xb
  rw [if_neg (show ¬ 22 + i < 2 by omega), if_neg (show ¬ 22 + i < 12 by omega), if_neg (show ¬ 22 + i < 22 by omega), if_pos (show 22 + i < 24 by omega), Nat.add_sub_cancel_left]
theorem xgtypeUnder {ad : Nat → Nat} {kk : Nat → ClassId} {V : Vf} {L : Lf} {Z : XZ} {i : Nat} (h : i < 2) : (xw ad kk V L Z)[60 + i]? = some (xetypeUnder ad kk V L Z i) := by
  have e := xw_b (ad := ad) (kk := kk) (V := V) (L := L) (Z := Z) (j := 22 + i) (by omega)
  rw [xjtypeUnder h] at e
  rw [show 60 + i = 38 + (22 + i) from by omega]
  exact e
theorem xjsettingValues {ad : Nat → Nat} {kk : Nat → ClassId} {V : Vf} {L : Lf} {Z : XZ} {i : Nat} (h : i < 2) : xb ad kk V L Z (24 + i) = xesettingValues ad kk V L Z i := by
  unfold xb
  rw [if_neg (show ¬ 24 + i < 2 by omega), if_neg (show ¬ 24 + i < 12 by omega), if_neg (show ¬ 24 + i < 22 by omega), if_neg (show ¬ 24 + i < 24 by omega), if_pos (show 24 + i < 26 by omega), Nat.add_sub_cancel_left]
theorem xgsettingValues {ad : Nat → Nat} {kk : Nat → ClassId} {V : Vf} {L : Lf} {Z : XZ} {i : Nat} (h : i < 2) : (xw ad kk V L Z)[62 + i]? = some (xesettingValues ad kk V L Z i) := by
  have e := xw_b (ad := ad) (kk := kk) (V := V) (L := L) (Z := Z) (j := 24 + i) (by omega)
  rw [xjsettingValues h] at e
  rw [show 62 + i = 38 + (24 + i) from by omega]
  exact e
theorem xjcomps {ad : Nat → Nat} {kk : Nat → ClassId} {V : Vf} {L : Lf} {Z : XZ} {i : Nat} (h : i < 2) : xb ad kk V L Z (26 + i) = xecomps ad kk V L Z i := by
  unfold xb
  rw [if_neg (show ¬ 26 + i < 2 by omega), if_neg (show ¬ 26 + i < 12 by omega), if_neg (show ¬ 26 + i < 22 by omega), if_neg (show ¬ 26 + i < 24 by omega), if_neg (show ¬ 26 + i < 26 by omega), if_pos (show 26 + i < 28 by omega), Nat.add_sub_cancel_left]
theorem xgcomps {ad : Nat → Nat} {kk : Nat → ClassId} {V : Vf} {L : Lf} {Z : XZ} {i : Nat} (h : i < 2) : (xw ad kk V L Z)[64 + i]? = some (xecomps ad kk V L Z i) := by
  have e := xw_b (ad := ad) (kk := kk) (V := V) (L := L) (Z := Z) (j := 26 + i) (by omega)
  rw [xjcomps h] at e
  rw [show 64 + i = 38 + (26 + i) from by omega]
  exact e
theorem xjwrapsA {ad : Nat → Nat} {kk : Nat → ClassId} {V : Vf} {L : Lf} {Z : XZ} {i : Nat} (h : i < 2) : xb ad kk V L Z (28 + i) = xewrapsA ad kk V L Z i := by
  unfold xb
  rw [if_neg (show ¬ 28 + i < 2 by omega), if_neg (show ¬ 28 + i < 12 by omega), if_neg (show ¬ 28 + i < 22 by omega), if_neg (show ¬ 28 + i < 24 by omega), if_neg (show ¬ 28 + i < 26 by omega), if_neg (show ¬ 28 + i < 28 by omega), if_pos (show 28 + i < 30 by omega), Nat.add_sub_cancel_left]
theorem xgwrapsA {ad : Nat → Nat} {kk : Nat → ClassId} {V : Vf} {L : Lf} {Z : XZ} {i : Nat} (h : i < 2) : (xw ad kk V L Z)[66 + i]? = some (xewrapsA ad kk V L Z i) := by
  have e := xw_b (ad := ad) (kk := kk) (V := V) (L := L) (Z := Z) (j := 28 + i) (by omega)
  rw [xjwrapsA h] at e
  rw [show 66 + i = 38 + (28 + i) from by omega]
  exact e
theorem xjwrapOrder {ad : Nat → Nat} {kk : Nat → ClassId} {V : Vf} {L : Lf} {Z : XZ} {i : Nat} (h : i < 2) : xb ad kk V L Z (30 + i) = xewrapOrder ad kk V L Z i := by
  unfold xb
  rw [if_neg (show ¬ 30 + i < 2 by omega), if_neg (show ¬ 30 + i < 12 by omega), if_neg (show ¬ 30 + i < 22 by omega), if_neg (show ¬ 30 + i < 24 by omega), if_neg (show ¬ 30 + i < 26 by omega), if_neg (show ¬ 30 + i < 28 by omega), if_neg (show ¬ 30 + i < 30 by omega), if_pos (show 30 + i < 32 by omega), Nat.add_sub_cancel_left]
theorem xgwrapOrder {ad : Nat → Nat} {kk : Nat → ClassId} {V : Vf} {L : Lf} {Z : XZ} {i : Nat} (h : i < 2) : (xw ad kk V L Z)[68 + i]? = some (xewrapOrder ad kk V L Z i) := by
  have e := xw_b (ad := ad) (kk := kk) (V := V) (L := L) (Z := Z) (j := 30 + i) (by omega)
  rw [xjwrapOrder h] at e
  rw [show 68 + i = 38 + (30 + i) from by omega]
  exact e
theorem xjcode {ad : Nat → Nat} {kk : Nat → ClassId} {V : Vf} {L : Lf} {Z : XZ} {i : Nat} (h : i < 2) : xb ad kk V L Z (32 + i) = xecode ad kk V L Z i := by
  unfold xb
  rw [if_neg (show ¬ 32 + i < 2 by omega), if_neg (show ¬ 32 + i < 12 by omega), if_neg (show ¬ 32 + i < 22 by omega), if_neg (show ¬ 32 + i < 24 by omega), if_neg (show ¬ 32 + i < 26 by omega), if_neg (show ¬ 32 + i < 28 by omega), if_neg (show ¬ 32 + i < 30 by omega), if_neg (show ¬ 32 + i < 32 by omega), if_pos (show 32 + i < 34 by omega), Nat.add_sub_cancel_left]
theorem xgcode {ad : Nat → Nat} {kk : Nat → ClassId} {V : Vf} {L : Lf} {Z : XZ} {i : Nat} (h : i < 2) : (xw ad kk V L Z)[70 + i]? = some (xecode ad kk V L Z i) := by
  have e := xw_b (ad := ad) (kk := kk) (V := V) (L := L) (Z := Z) (j := 32 + i) (by omega)
  rw [xjcode h] at e
  rw [show 70 + i = 38 + (32 + i) from by omega]
  exact e
theorem xjComp {ad : Nat → Nat} {kk : Nat → ClassId} {V : Vf} {L : Lf} {Z : XZ} {i : Nat} (h : i < 48) : xb ad kk V L Z (34 + i) = xeComp ad kk V L Z i := by
  unfold xb
  rw [if_neg (show ¬ 34 + i < 2 by omega), if_neg (show ¬ 34 + i < 12 by omega), if_neg (show ¬ 34 + i < 22 by omega), if_neg (show ¬ 34 + i < 24 by omega), if_neg (show ¬ 34 + i < 26 by omega), if_neg (show ¬ 34 + i < 28 by omega), if_neg (show ¬ 34 + i < 30 by omega), if_neg (show ¬ 34 + i < 32 by omega), if_neg (show ¬ 34 + i < 34 by omega), if_pos (show 34 + i < 82 by omega), Nat.add_sub_cancel_left]
theorem xgComp {ad : Nat → Nat} {kk : Nat → ClassId} {V : Vf} {L : Lf} {Z : XZ} {i : Nat} (h : i < 48) : (xw ad kk V L Z)[72 + i]? = some (xeComp ad kk V L Z i) := by
  have e := xw_b (ad := ad) (kk := kk) (V := V) (L := L) (Z := Z) (j := 34 + i) (by omega)
  rw [xjComp h] at e
  rw [show 72 + i = 38 + (34 + i) from by omega]
  exact e
theorem xjneedTypes {ad : Nat → Nat} {kk : Nat → ClassId} {V : Vf} {L : Lf} {Z : XZ} {i : Nat} (h : i < 48) : xb ad kk V L Z (82 + i) = xeneedTypes ad kk V L Z i := by
  unfold xb
  rw [if_neg (show ¬ 82 + i < 2 by omega), if_neg (show ¬ 82 + i < 12 by omega), if_neg (show ¬ 82 + i < 22 by omega), if_neg (show ¬ 82 + i < 24 by omega), if_neg (show ¬ 82 + i < 26 by omega), if_neg (show ¬ 82 + i < 28 by omega), if_neg (show ¬ 82 + i < 30 by omega), if_neg (show ¬ 82 + i < 32 by omega), if_neg (show ¬ 82 + i < 34 by omega), if_neg (show ¬ 82 + i < 82 by omega), if_pos (show 82 + i < 130 by omega), Nat.add_sub_cancel_left]
theorem xgneedTypes {ad : Nat → Nat} {kk : Nat → ClassId} {V : Vf} {L : Lf} {Z : XZ} {i : Nat} (h : i < 48) : (xw ad kk V L Z)[120 + i]? = some (xeneedTypes ad kk V L Z i) := by
  have e := xw_b (ad := ad) (kk := kk) (V := V) (L := L) (Z := Z) (j := 82 + i) (by omega)
  rw [xjneedTypes h] at e
  rw [show 120 + i = 38 + (82 + i) from by omega]
  exact e
theorem xjneedWords {ad : Nat → Nat} {kk : Nat → ClassId} {V : Vf} {L : Lf} {Z : XZ} {i : Nat} (h : i < 48) : xb ad kk V L Z (130 + i) = xeneedWords ad kk V L Z i := by
  unfold xb
  rw [if_neg (show ¬ 130 + i < 2 by omega), if_neg (show ¬ 130 + i < 12 by omega), if_neg (show ¬ 130 + i < 22 by omega), if_neg (show ¬ 130 + i < 24 by omega), if_neg (show ¬ 130 + i < 26 by omega), if_neg (show ¬ 130 + i < 28 by omega), if_neg (show ¬ 130 + i < 30 by omega), if_neg (show ¬ 130 + i < 32 by omega), if_neg (show ¬ 130 + i < 34 by omega), if_neg (show ¬ 130 + i < 82 by omega), if_neg (show ¬ 130 + i < 130 by omega), if_pos (show 130 + i < 178 by omega), Nat.add_sub_cancel_left]
theorem xgneedWords {ad : Nat → Nat} {kk : Nat → ClassId} {V : Vf} {L : Lf} {Z : XZ} {i : Nat} (h : i < 48) : (xw ad kk V L Z)[168 + i]? = some (xeneedWords ad kk V L Z i) := by
  have e := xw_b (ad := ad) (kk := kk) (V := V) (L := L) (Z := Z) (j := 130 + i) (by omega)
  rw [xjneedWords h] at e
  rw [show 168 + i = 38 + (130 + i) from by omega]
  exact e
theorem xjneedKinds {ad : Nat → Nat} {kk : Nat → ClassId} {V : Vf} {L : Lf} {Z : XZ} {i : Nat} (h : i < 48) : xb ad kk V L Z (178 + i) = xeneedKinds ad kk V L Z i := by
  unfold xb
  rw [if_neg (show ¬ 178 + i < 2 by omega), if_neg (show ¬ 178 + i < 12 by omega), if_neg (show ¬ 178 + i < 22 by omega), if_neg (show ¬ 178 + i < 24 by omega), if_neg (show ¬ 178 + i < 26 by omega), if_neg (show ¬ 178 + i < 28 by omega), if_neg (show ¬ 178 + i < 30 by omega), if_neg (show ¬ 178 + i < 32 by omega), if_neg (show ¬ 178 + i < 34 by omega), if_neg (show ¬ 178 + i < 82 by omega), if_neg (show ¬ 178 + i < 130 by omega), if_neg (show ¬ 178 + i < 178 by omega), if_pos (show 178 + i < 226 by omega), Nat.add_sub_cancel_left]
theorem xgneedKinds {ad : Nat → Nat} {kk : Nat → ClassId} {V : Vf} {L : Lf} {Z : XZ} {i : Nat} (h : i < 48) : (xw ad kk V L Z)[216 + i]? = some (xeneedKinds ad kk V L Z i) := by
  have e := xw_b (ad := ad) (kk := kk) (V := V) (L := L) (Z := Z) (j := 178 + i) (by omega)
  rw [xjneedKinds h] at e
  rw [show 216 + i = 38 + (178 + i) from by omega]
  exact e
theorem xjmethodStarts {ad : Nat → Nat} {kk : Nat → ClassId} {V : Vf} {L : Lf} {Z : XZ} {i : Nat} (h : i < 48) : xb ad kk V L Z (226 + i) = xemethodStarts ad kk V L Z i := by
  unfold xb
  rw [if_neg (show ¬ 226 + i < 2 by omega), if_neg (show ¬ 226 + i < 12 by omega), if_neg (show ¬ 226 + i < 22 by omega), if_neg (show ¬ 226 + i < 24 by omega), if_neg (show ¬ 226 + i < 26 by omega), if_neg (show ¬ 226 + i < 28 by omega), if_neg (show ¬ 226 + i < 30 by omega), if_neg (show ¬ 226 + i < 32 by omega), if_neg (show ¬ 226 + i < 34 by omega), if_neg (show ¬ 226 + i < 82 by omega), if_neg (show ¬ 226 + i < 130 by omega), if_neg (show ¬ 226 + i < 178 by omega), if_neg (show ¬ 226 + i < 226 by omega), if_pos (show 226 + i < 274 by omega), Nat.add_sub_cancel_left]
theorem xgmethodStarts {ad : Nat → Nat} {kk : Nat → ClassId} {V : Vf} {L : Lf} {Z : XZ} {i : Nat} (h : i < 48) : (xw ad kk V L Z)[264 + i]? = some (xemethodStarts ad kk V L Z i) := by
  have e := xw_b (ad := ad) (kk := kk) (V := V) (L := L) (Z := Z) (j := 226 + i) (by omega)
  rw [xjmethodStarts h] at e
  rw [show 264 + i = 38 + (226 + i) from by omega]
  exact e
theorem xjWrap {ad : Nat → Nat} {kk : Nat → ClassId} {V : Vf} {L : Lf} {Z : XZ} {i : Nat} (h : i < 24) : xb ad kk V L Z (274 + i) = xeWrap ad kk V L Z i := by
  unfold xb
  rw [if_neg (show ¬ 274 + i < 2 by omega), if_neg (show ¬ 274 + i < 12 by omega), if_neg (show ¬ 274 + i < 22 by omega), if_neg (show ¬ 274 + i < 24 by omega), if_neg (show ¬ 274 + i < 26 by omega), if_neg (show ¬ 274 + i < 28 by omega), if_neg (show ¬ 274 + i < 30 by omega), if_neg (show ¬ 274 + i < 32 by omega), if_neg (show ¬ 274 + i < 34 by omega), if_neg (show ¬ 274 + i < 82 by omega), if_neg (show ¬ 274 + i < 130 by omega), if_neg (show ¬ 274 + i < 178 by omega), if_neg (show ¬ 274 + i < 226 by omega), if_neg (show ¬ 274 + i < 274 by omega), if_pos (show 274 + i < 298 by omega), Nat.add_sub_cancel_left]
theorem xgWrap {ad : Nat → Nat} {kk : Nat → ClassId} {V : Vf} {L : Lf} {Z : XZ} {i : Nat} (h : i < 24) : (xw ad kk V L Z)[312 + i]? = some (xeWrap ad kk V L Z i) := by
  have e := xw_b (ad := ad) (kk := kk) (V := V) (L := L) (Z := Z) (j := 274 + i) (by omega)
  rw [xjWrap h] at e
  rw [show 312 + i = 38 + (274 + i) from by omega]
  exact e
theorem xjFrame {ad : Nat → Nat} {kk : Nat → ClassId} {V : Vf} {L : Lf} {Z : XZ} {i : Nat} (h : i < Z.nf) : xb ad kk V L Z (298 + i) = xeFrame ad kk V L Z i := by
  unfold xb
  rw [if_neg (show ¬ 298 + i < 2 by omega), if_neg (show ¬ 298 + i < 12 by omega), if_neg (show ¬ 298 + i < 22 by omega), if_neg (show ¬ 298 + i < 24 by omega), if_neg (show ¬ 298 + i < 26 by omega), if_neg (show ¬ 298 + i < 28 by omega), if_neg (show ¬ 298 + i < 30 by omega), if_neg (show ¬ 298 + i < 32 by omega), if_neg (show ¬ 298 + i < 34 by omega), if_neg (show ¬ 298 + i < 82 by omega), if_neg (show ¬ 298 + i < 130 by omega), if_neg (show ¬ 298 + i < 178 by omega), if_neg (show ¬ 298 + i < 226 by omega), if_neg (show ¬ 298 + i < 274 by omega), if_neg (show ¬ 298 + i < 298 by omega), Nat.add_sub_cancel_left]
theorem xgFrame {ad : Nat → Nat} {kk : Nat → ClassId} {V : Vf} {L : Lf} {Z : XZ} {i : Nat} (h : i < Z.nf) : (xw ad kk V L Z)[336 + i]? = some (xeFrame ad kk V L Z i) := by
  have e := xw_b (ad := ad) (kk := kk) (V := V) (L := L) (Z := Z) (j := 298 + i) (by omega)
  rw [xjFrame h] at e
  rw [show 336 + i = 38 + (298 + i) from by omega]
  exact e
theorem xtwords {kk : Nat → ClassId} {Z : XZ} {i : Nat} (h : i < 10) : (xty kk Z)[43 + i]? = some (kk (50 + i), FieldType.long) := by
  have e := xt_b (kk := kk) (Z := Z) (j := 12 + i) (by omega)
  rw [if_pos (by omega)] at e
  rw [show 43 + i = 31 + (12 + i) from by omega, show 50 + i = 38 + (12 + i) from by omega]
  exact e
theorem xttypeUnder {kk : Nat → ClassId} {Z : XZ} {i : Nat} (h : i < 2) : (xty kk Z)[53 + i]? = some (kk (60 + i), .int) := by
  have e := xt_b (kk := kk) (Z := Z) (j := 22 + i) (by omega)
  rw [if_neg (by omega), if_neg (by omega), if_neg (by omega)] at e
  rw [show 53 + i = 31 + (22 + i) from by omega, show 60 + i = 38 + (22 + i) from by omega]
  exact e
theorem xtsettingValues {kk : Nat → ClassId} {Z : XZ} {i : Nat} (h : i < 2) : (xty kk Z)[55 + i]? = some (kk (62 + i), .int) := by
  have e := xt_b (kk := kk) (Z := Z) (j := 24 + i) (by omega)
  rw [if_neg (by omega), if_neg (by omega), if_neg (by omega)] at e
  rw [show 55 + i = 31 + (24 + i) from by omega, show 62 + i = 38 + (24 + i) from by omega]
  exact e
theorem xtcomps {kk : Nat → ClassId} {Z : XZ} {i : Nat} (h : i < 2) : (xty kk Z)[57 + i]? = some (kk (64 + i), .object RX3) := by
  have e := xt_b (kk := kk) (Z := Z) (j := 26 + i) (by omega)
  rw [if_neg (by omega), if_pos (by omega)] at e
  rw [show 57 + i = 31 + (26 + i) from by omega, show 64 + i = 38 + (26 + i) from by omega]
  exact e
theorem xtwrapsA {kk : Nat → ClassId} {Z : XZ} {i : Nat} (h : i < 2) : (xty kk Z)[59 + i]? = some (kk (66 + i), .object RX10) := by
  have e := xt_b (kk := kk) (Z := Z) (j := 28 + i) (by omega)
  rw [if_neg (by omega), if_neg (by omega), if_pos (by omega)] at e
  rw [show 59 + i = 31 + (28 + i) from by omega, show 66 + i = 38 + (28 + i) from by omega]
  exact e
theorem xtwrapOrder {kk : Nat → ClassId} {Z : XZ} {i : Nat} (h : i < 2) : (xty kk Z)[61 + i]? = some (kk (68 + i), .int) := by
  have e := xt_b (kk := kk) (Z := Z) (j := 30 + i) (by omega)
  rw [if_neg (by omega), if_neg (by omega), if_neg (by omega)] at e
  rw [show 61 + i = 31 + (30 + i) from by omega, show 68 + i = 38 + (30 + i) from by omega]
  exact e
theorem xtcode {kk : Nat → ClassId} {Z : XZ} {i : Nat} (h : i < 2) : (xty kk Z)[63 + i]? = some (kk (70 + i), .int) := by
  have e := xt_b (kk := kk) (Z := Z) (j := 32 + i) (by omega)
  rw [if_neg (by omega), if_neg (by omega), if_neg (by omega)] at e
  rw [show 63 + i = 31 + (32 + i) from by omega, show 70 + i = 38 + (32 + i) from by omega]
  exact e
theorem xtneedTypes {kk : Nat → ClassId} {Z : XZ} {i : Nat} (h : i < 48) : (xty kk Z)[113 + i]? = some (kk (120 + i), .int) := by
  have e := xt_b (kk := kk) (Z := Z) (j := 82 + i) (by omega)
  rw [if_neg (by omega), if_neg (by omega), if_neg (by omega)] at e
  rw [show 113 + i = 31 + (82 + i) from by omega, show 120 + i = 38 + (82 + i) from by omega]
  exact e
theorem xtneedWords {kk : Nat → ClassId} {Z : XZ} {i : Nat} (h : i < 48) : (xty kk Z)[161 + i]? = some (kk (168 + i), .int) := by
  have e := xt_b (kk := kk) (Z := Z) (j := 130 + i) (by omega)
  rw [if_neg (by omega), if_neg (by omega), if_neg (by omega)] at e
  rw [show 161 + i = 31 + (130 + i) from by omega, show 168 + i = 38 + (130 + i) from by omega]
  exact e
theorem xtneedKinds {kk : Nat → ClassId} {Z : XZ} {i : Nat} (h : i < 48) : (xty kk Z)[209 + i]? = some (kk (216 + i), .int) := by
  have e := xt_b (kk := kk) (Z := Z) (j := 178 + i) (by omega)
  rw [if_neg (by omega), if_neg (by omega), if_neg (by omega)] at e
  rw [show 209 + i = 31 + (178 + i) from by omega, show 216 + i = 38 + (178 + i) from by omega]
  exact e
theorem xtmethodStarts {kk : Nat → ClassId} {Z : XZ} {i : Nat} (h : i < 48) : (xty kk Z)[257 + i]? = some (kk (264 + i), .int) := by
  have e := xt_b (kk := kk) (Z := Z) (j := 226 + i) (by omega)
  rw [if_neg (by omega), if_neg (by omega), if_neg (by omega)] at e
  rw [show 257 + i = 31 + (226 + i) from by omega, show 264 + i = 38 + (226 + i) from by omega]
  exact e
theorem xpBook_wrapCount {ad : Nat → Nat} {kk : Nat → ClassId} {V : Vf} {L : Lf} {Z : XZ} {i : Nat} {v : Int32} (h : i < 2) : (xw ad kk V L Z).set (38 + i) (ad (38 + i), .inr (0, (xfBook ad V i).set 11 (.int v))) = xw ad kk (up2 V 41 i v) L Z := by
  have e : (xw ad kk V L Z).set (38 + (i)) (ad (38 + i), .inr (0, (xfBook ad V i).set 11 (.int v))) = xw ad kk (up2 V 41 i v) L Z := by
    refine xw_bs (by omega) (xs_up (by decide)) ?_ (fun j hj => xb_up (fun e => hj (Option.some.inj e).symm))
    rw [xjBook h]
    unfold xeBook xfBook
    rw [up2_ss]
    rfl
  exact e
theorem xpBook_codeLength {ad : Nat → Nat} {kk : Nat → ClassId} {V : Vf} {L : Lf} {Z : XZ} {i : Nat} {v : Int32} (h : i < 2) : (xw ad kk V L Z).set (38 + i) (ad (38 + i), .inr (0, (xfBook ad V i).set 12 (.int v))) = xw ad kk (up2 V 42 i v) L Z := by
  have e : (xw ad kk V L Z).set (38 + (i)) (ad (38 + i), .inr (0, (xfBook ad V i).set 12 (.int v))) = xw ad kk (up2 V 42 i v) L Z := by
    refine xw_bs (by omega) (xs_up (by decide)) ?_ (fun j hj => xb_up (fun e => hj (Option.some.inj e).symm))
    rw [xjBook h]
    unfold xeBook xfBook
    rw [up2_ss]
    rfl
  exact e
theorem xpNames_size {ad : Nat → Nat} {kk : Nat → ClassId} {V : Vf} {L : Lf} {Z : XZ} {i : Nat} {v : Int32} (h : i < 10) : (xw ad kk V L Z).set (40 + i) (ad (40 + i), .inr (6, (xfNames ad V i).set 1 (.int v))) = xw ad kk (up2 V 43 i v) L Z := by
  have e : (xw ad kk V L Z).set (38 + (2 + i)) (ad (40 + i), .inr (6, (xfNames ad V i).set 1 (.int v))) = xw ad kk (up2 V 43 i v) L Z := by
    refine xw_bs (by omega) (xs_up (by decide)) ?_ (fun j hj => xb_up (fun e => hj (Option.some.inj e).symm))
    rw [xjNames h]
    unfold xeNames xfNames
    rw [up2_ss]
    rfl
  rw [show 38 + (2 + i) = 40 + i from by omega] at e
  exact e
theorem xpComp_needs {ad : Nat → Nat} {kk : Nat → ClassId} {V : Vf} {L : Lf} {Z : XZ} {i : Nat} {v : Int32} (h : i < 48) : (xw ad kk V L Z).set (72 + i) (ad (72 + i), .inr (3, (xfComp ad V i).set 4 (.int v))) = xw ad kk (up2 V 49 i v) L Z := by
  have e : (xw ad kk V L Z).set (38 + (34 + i)) (ad (72 + i), .inr (3, (xfComp ad V i).set 4 (.int v))) = xw ad kk (up2 V 49 i v) L Z := by
    refine xw_bs (by omega) (xs_up (by decide)) ?_ (fun j hj => xb_up (fun e => hj (Option.some.inj e).symm))
    rw [xjComp h]
    unfold xeComp xfComp
    rw [up2_ss]
    rfl
  rw [show 38 + (34 + i) = 72 + i from by omega] at e
  exact e
theorem xpComp_under {ad : Nat → Nat} {kk : Nat → ClassId} {V : Vf} {L : Lf} {Z : XZ} {i : Nat} {v : Int32} (h : i < 48) : (xw ad kk V L Z).set (72 + i) (ad (72 + i), .inr (3, (xfComp ad V i).set 5 (.int v))) = xw ad kk (up2 V 50 i v) L Z := by
  have e : (xw ad kk V L Z).set (38 + (34 + i)) (ad (72 + i), .inr (3, (xfComp ad V i).set 5 (.int v))) = xw ad kk (up2 V 50 i v) L Z := by
    refine xw_bs (by omega) (xs_up (by decide)) ?_ (fun j hj => xb_up (fun e => hj (Option.some.inj e).symm))
    rw [xjComp h]
    unfold xeComp xfComp
    rw [up2_ss]
    rfl
  rw [show 38 + (34 + i) = 72 + i from by omega] at e
  exact e
theorem xpComp_scope {ad : Nat → Nat} {kk : Nat → ClassId} {V : Vf} {L : Lf} {Z : XZ} {i : Nat} {v : Int32} (h : i < 48) : (xw ad kk V L Z).set (72 + i) (ad (72 + i), .inr (3, (xfComp ad V i).set 6 (.int v))) = xw ad kk (up2 V 51 i v) L Z := by
  have e : (xw ad kk V L Z).set (38 + (34 + i)) (ad (72 + i), .inr (3, (xfComp ad V i).set 6 (.int v))) = xw ad kk (up2 V 51 i v) L Z := by
    refine xw_bs (by omega) (xs_up (by decide)) ?_ (fun j hj => xb_up (fun e => hj (Option.some.inj e).symm))
    rw [xjComp h]
    unfold xeComp xfComp
    rw [up2_ss]
    rfl
  rw [show 38 + (34 + i) = 72 + i from by omega] at e
  exact e
theorem xpComp_calledWord {ad : Nat → Nat} {kk : Nat → ClassId} {V : Vf} {L : Lf} {Z : XZ} {i : Nat} {v : Int32} (h : i < 48) : (xw ad kk V L Z).set (72 + i) (ad (72 + i), .inr (3, (xfComp ad V i).set 7 (.int v))) = xw ad kk (up2 V 52 i v) L Z := by
  have e : (xw ad kk V L Z).set (38 + (34 + i)) (ad (72 + i), .inr (3, (xfComp ad V i).set 7 (.int v))) = xw ad kk (up2 V 52 i v) L Z := by
    refine xw_bs (by omega) (xs_up (by decide)) ?_ (fun j hj => xb_up (fun e => hj (Option.some.inj e).symm))
    rw [xjComp h]
    unfold xeComp xfComp
    rw [up2_ss]
    rfl
  rw [show 38 + (34 + i) = 72 + i from by omega] at e
  exact e
theorem xpComp_rank {ad : Nat → Nat} {kk : Nat → ClassId} {V : Vf} {L : Lf} {Z : XZ} {i : Nat} {v : Int32} (h : i < 48) : (xw ad kk V L Z).set (72 + i) (ad (72 + i), .inr (3, (xfComp ad V i).set 8 (.int v))) = xw ad kk (up2 V 53 i v) L Z := by
  have e : (xw ad kk V L Z).set (38 + (34 + i)) (ad (72 + i), .inr (3, (xfComp ad V i).set 8 (.int v))) = xw ad kk (up2 V 53 i v) L Z := by
    refine xw_bs (by omega) (xs_up (by decide)) ?_ (fun j hj => xb_up (fun e => hj (Option.some.inj e).symm))
    rw [xjComp h]
    unfold xeComp xfComp
    rw [up2_ss]
    rfl
  rw [show 38 + (34 + i) = 72 + i from by omega] at e
  exact e
theorem xpComp_whenSetting {ad : Nat → Nat} {kk : Nat → ClassId} {V : Vf} {L : Lf} {Z : XZ} {i : Nat} {v : Int32} (h : i < 48) : (xw ad kk V L Z).set (72 + i) (ad (72 + i), .inr (3, (xfComp ad V i).set 9 (.int v))) = xw ad kk (up2 V 54 i v) L Z := by
  have e : (xw ad kk V L Z).set (38 + (34 + i)) (ad (72 + i), .inr (3, (xfComp ad V i).set 9 (.int v))) = xw ad kk (up2 V 54 i v) L Z := by
    refine xw_bs (by omega) (xs_up (by decide)) ?_ (fun j hj => xb_up (fun e => hj (Option.some.inj e).symm))
    rw [xjComp h]
    unfold xeComp xfComp
    rw [up2_ss]
    rfl
  rw [show 38 + (34 + i) = 72 + i from by omega] at e
  exact e
theorem xpComp_whenValue {ad : Nat → Nat} {kk : Nat → ClassId} {V : Vf} {L : Lf} {Z : XZ} {i : Nat} {v : Int32} (h : i < 48) : (xw ad kk V L Z).set (72 + i) (ad (72 + i), .inr (3, (xfComp ad V i).set 10 (.int v))) = xw ad kk (up2 V 55 i v) L Z := by
  have e : (xw ad kk V L Z).set (38 + (34 + i)) (ad (72 + i), .inr (3, (xfComp ad V i).set 10 (.int v))) = xw ad kk (up2 V 55 i v) L Z := by
    refine xw_bs (by omega) (xs_up (by decide)) ?_ (fun j hj => xb_up (fun e => hj (Option.some.inj e).symm))
    rw [xjComp h]
    unfold xeComp xfComp
    rw [up2_ss]
    rfl
  rw [show 38 + (34 + i) = 72 + i from by omega] at e
  exact e
theorem xpComp_openedStart {ad : Nat → Nat} {kk : Nat → ClassId} {V : Vf} {L : Lf} {Z : XZ} {i : Nat} {v : Int32} (h : i < 48) : (xw ad kk V L Z).set (72 + i) (ad (72 + i), .inr (3, (xfComp ad V i).set 11 (.int v))) = xw ad kk (up2 V 56 i v) L Z := by
  have e : (xw ad kk V L Z).set (38 + (34 + i)) (ad (72 + i), .inr (3, (xfComp ad V i).set 11 (.int v))) = xw ad kk (up2 V 56 i v) L Z := by
    refine xw_bs (by omega) (xs_up (by decide)) ?_ (fun j hj => xb_up (fun e => hj (Option.some.inj e).symm))
    rw [xjComp h]
    unfold xeComp xfComp
    rw [up2_ss]
    rfl
  rw [show 38 + (34 + i) = 72 + i from by omega] at e
  exact e
theorem xpComp_closedStart {ad : Nat → Nat} {kk : Nat → ClassId} {V : Vf} {L : Lf} {Z : XZ} {i : Nat} {v : Int32} (h : i < 48) : (xw ad kk V L Z).set (72 + i) (ad (72 + i), .inr (3, (xfComp ad V i).set 12 (.int v))) = xw ad kk (up2 V 57 i v) L Z := by
  have e : (xw ad kk V L Z).set (38 + (34 + i)) (ad (72 + i), .inr (3, (xfComp ad V i).set 12 (.int v))) = xw ad kk (up2 V 57 i v) L Z := by
    refine xw_bs (by omega) (xs_up (by decide)) ?_ (fun j hj => xb_up (fun e => hj (Option.some.inj e).symm))
    rw [xjComp h]
    unfold xeComp xfComp
    rw [up2_ss]
    rfl
  rw [show 38 + (34 + i) = 72 + i from by omega] at e
  exact e
theorem xpWrap_type {ad : Nat → Nat} {kk : Nat → ClassId} {V : Vf} {L : Lf} {Z : XZ} {i : Nat} {v : Int32} (h : i < 24) : (xw ad kk V L Z).set (312 + i) (ad (312 + i), .inr (10, (xfWrap V i).set 0 (.int v))) = xw ad kk (up2 V 62 i v) L Z := by
  have e : (xw ad kk V L Z).set (38 + (274 + i)) (ad (312 + i), .inr (10, (xfWrap V i).set 0 (.int v))) = xw ad kk (up2 V 62 i v) L Z := by
    refine xw_bs (by omega) (xs_up (by decide)) ?_ (fun j hj => xb_up (fun e => hj (Option.some.inj e).symm))
    rw [xjWrap h]
    unfold xeWrap xfWrap
    rw [up2_ss]
    rfl
  rw [show 38 + (274 + i) = 312 + i from by omega] at e
  exact e
theorem xpWrap_method {ad : Nat → Nat} {kk : Nat → ClassId} {V : Vf} {L : Lf} {Z : XZ} {i : Nat} {v : Int32} (h : i < 24) : (xw ad kk V L Z).set (312 + i) (ad (312 + i), .inr (10, (xfWrap V i).set 1 (.int v))) = xw ad kk (up2 V 63 i v) L Z := by
  have e : (xw ad kk V L Z).set (38 + (274 + i)) (ad (312 + i), .inr (10, (xfWrap V i).set 1 (.int v))) = xw ad kk (up2 V 63 i v) L Z := by
    refine xw_bs (by omega) (xs_up (by decide)) ?_ (fun j hj => xb_up (fun e => hj (Option.some.inj e).symm))
    rw [xjWrap h]
    unfold xeWrap xfWrap
    rw [up2_ss]
    rfl
  rw [show 38 + (274 + i) = 312 + i from by omega] at e
  exact e
theorem xpWrap_number {ad : Nat → Nat} {kk : Nat → ClassId} {V : Vf} {L : Lf} {Z : XZ} {i : Nat} {v : Int32} (h : i < 24) : (xw ad kk V L Z).set (312 + i) (ad (312 + i), .inr (10, (xfWrap V i).set 2 (.int v))) = xw ad kk (up2 V 64 i v) L Z := by
  have e : (xw ad kk V L Z).set (38 + (274 + i)) (ad (312 + i), .inr (10, (xfWrap V i).set 2 (.int v))) = xw ad kk (up2 V 64 i v) L Z := by
    refine xw_bs (by omega) (xs_up (by decide)) ?_ (fun j hj => xb_up (fun e => hj (Option.some.inj e).symm))
    rw [xjWrap h]
    unfold xeWrap xfWrap
    rw [up2_ss]
    rfl
  rw [show 38 + (274 + i) = 312 + i from by omega] at e
  exact e
theorem xpWrap_phase {ad : Nat → Nat} {kk : Nat → ClassId} {V : Vf} {L : Lf} {Z : XZ} {i : Nat} {v : Int32} (h : i < 24) : (xw ad kk V L Z).set (312 + i) (ad (312 + i), .inr (10, (xfWrap V i).set 3 (.int v))) = xw ad kk (up2 V 65 i v) L Z := by
  have e : (xw ad kk V L Z).set (38 + (274 + i)) (ad (312 + i), .inr (10, (xfWrap V i).set 3 (.int v))) = xw ad kk (up2 V 65 i v) L Z := by
    refine xw_bs (by omega) (xs_up (by decide)) ?_ (fun j hj => xb_up (fun e => hj (Option.some.inj e).symm))
    rw [xjWrap h]
    unfold xeWrap xfWrap
    rw [up2_ss]
    rfl
  rw [show 38 + (274 + i) = 312 + i from by omega] at e
  exact e
theorem xpWrap_start {ad : Nat → Nat} {kk : Nat → ClassId} {V : Vf} {L : Lf} {Z : XZ} {i : Nat} {v : Int32} (h : i < 24) : (xw ad kk V L Z).set (312 + i) (ad (312 + i), .inr (10, (xfWrap V i).set 4 (.int v))) = xw ad kk (up2 V 66 i v) L Z := by
  have e : (xw ad kk V L Z).set (38 + (274 + i)) (ad (312 + i), .inr (10, (xfWrap V i).set 4 (.int v))) = xw ad kk (up2 V 66 i v) L Z := by
    refine xw_bs (by omega) (xs_up (by decide)) ?_ (fun j hj => xb_up (fun e => hj (Option.some.inj e).symm))
    rw [xjWrap h]
    unfold xeWrap xfWrap
    rw [up2_ss]
    rfl
  rw [show 38 + (274 + i) = 312 + i from by omega] at e
  exact e
theorem xpFrame_kind {ad : Nat → Nat} {kk : Nat → ClassId} {V : Vf} {L : Lf} {Z : XZ} {i : Nat} {v : Int32} (h : i < Z.nf) : (xw ad kk V L Z).set (336 + i) (Z.fa i, .inr (4, (xfFrame V i).set 0 (.int v))) = xw ad kk (up2 V 67 i v) L Z := by
  have e : (xw ad kk V L Z).set (38 + (298 + i)) (Z.fa i, .inr (4, (xfFrame V i).set 0 (.int v))) = xw ad kk (up2 V 67 i v) L Z := by
    refine xw_bs (by omega) (xs_up (by decide)) ?_ (fun j hj => xb_up (fun e => hj (Option.some.inj e).symm))
    rw [xjFrame h]
    unfold xeFrame xfFrame
    rw [up2_ss]
    rfl
  rw [show 38 + (298 + i) = 336 + i from by omega] at e
  exact e
theorem xpFrame_phase {ad : Nat → Nat} {kk : Nat → ClassId} {V : Vf} {L : Lf} {Z : XZ} {i : Nat} {v : Int32} (h : i < Z.nf) : (xw ad kk V L Z).set (336 + i) (Z.fa i, .inr (4, (xfFrame V i).set 1 (.int v))) = xw ad kk (up2 V 68 i v) L Z := by
  have e : (xw ad kk V L Z).set (38 + (298 + i)) (Z.fa i, .inr (4, (xfFrame V i).set 1 (.int v))) = xw ad kk (up2 V 68 i v) L Z := by
    refine xw_bs (by omega) (xs_up (by decide)) ?_ (fun j hj => xb_up (fun e => hj (Option.some.inj e).symm))
    rw [xjFrame h]
    unfold xeFrame xfFrame
    rw [up2_ss]
    rfl
  rw [show 38 + (298 + i) = 336 + i from by omega] at e
  exact e
theorem xpFrame_level {ad : Nat → Nat} {kk : Nat → ClassId} {V : Vf} {L : Lf} {Z : XZ} {i : Nat} {v : Int32} (h : i < Z.nf) : (xw ad kk V L Z).set (336 + i) (Z.fa i, .inr (4, (xfFrame V i).set 2 (.int v))) = xw ad kk (up2 V 69 i v) L Z := by
  have e : (xw ad kk V L Z).set (38 + (298 + i)) (Z.fa i, .inr (4, (xfFrame V i).set 2 (.int v))) = xw ad kk (up2 V 69 i v) L Z := by
    refine xw_bs (by omega) (xs_up (by decide)) ?_ (fun j hj => xb_up (fun e => hj (Option.some.inj e).symm))
    rw [xjFrame h]
    unfold xeFrame xfFrame
    rw [up2_ss]
    rfl
  rw [show 38 + (298 + i) = 336 + i from by omega] at e
  exact e
theorem xpFrame_object {ad : Nat → Nat} {kk : Nat → ClassId} {V : Vf} {L : Lf} {Z : XZ} {i : Nat} {v : Int32} (h : i < Z.nf) : (xw ad kk V L Z).set (336 + i) (Z.fa i, .inr (4, (xfFrame V i).set 3 (.int v))) = xw ad kk (up2 V 70 i v) L Z := by
  have e : (xw ad kk V L Z).set (38 + (298 + i)) (Z.fa i, .inr (4, (xfFrame V i).set 3 (.int v))) = xw ad kk (up2 V 70 i v) L Z := by
    refine xw_bs (by omega) (xs_up (by decide)) ?_ (fun j hj => xb_up (fun e => hj (Option.some.inj e).symm))
    rw [xjFrame h]
    unfold xeFrame xfFrame
    rw [up2_ss]
    rfl
  rw [show 38 + (298 + i) = 336 + i from by omega] at e
  exact e
theorem xpFrame_component {ad : Nat → Nat} {kk : Nat → ClassId} {V : Vf} {L : Lf} {Z : XZ} {i : Nat} {v : Int32} (h : i < Z.nf) : (xw ad kk V L Z).set (336 + i) (Z.fa i, .inr (4, (xfFrame V i).set 4 (.int v))) = xw ad kk (up2 V 71 i v) L Z := by
  have e : (xw ad kk V L Z).set (38 + (298 + i)) (Z.fa i, .inr (4, (xfFrame V i).set 4 (.int v))) = xw ad kk (up2 V 71 i v) L Z := by
    refine xw_bs (by omega) (xs_up (by decide)) ?_ (fun j hj => xb_up (fun e => hj (Option.some.inj e).symm))
    rw [xjFrame h]
    unfold xeFrame xfFrame
    rw [up2_ss]
    rfl
  rw [show 38 + (298 + i) = 336 + i from by omega] at e
  exact e
theorem xpFrame_scope {ad : Nat → Nat} {kk : Nat → ClassId} {V : Vf} {L : Lf} {Z : XZ} {i : Nat} {v : Int32} (h : i < Z.nf) : (xw ad kk V L Z).set (336 + i) (Z.fa i, .inr (4, (xfFrame V i).set 5 (.int v))) = xw ad kk (up2 V 72 i v) L Z := by
  have e : (xw ad kk V L Z).set (38 + (298 + i)) (Z.fa i, .inr (4, (xfFrame V i).set 5 (.int v))) = xw ad kk (up2 V 72 i v) L Z := by
    refine xw_bs (by omega) (xs_up (by decide)) ?_ (fun j hj => xb_up (fun e => hj (Option.some.inj e).symm))
    rw [xjFrame h]
    unfold xeFrame xfFrame
    rw [up2_ss]
    rfl
  rw [show 38 + (298 + i) = 336 + i from by omega] at e
  exact e
theorem xpFrame_method {ad : Nat → Nat} {kk : Nat → ClassId} {V : Vf} {L : Lf} {Z : XZ} {i : Nat} {v : Int32} (h : i < Z.nf) : (xw ad kk V L Z).set (336 + i) (Z.fa i, .inr (4, (xfFrame V i).set 6 (.int v))) = xw ad kk (up2 V 73 i v) L Z := by
  have e : (xw ad kk V L Z).set (38 + (298 + i)) (Z.fa i, .inr (4, (xfFrame V i).set 6 (.int v))) = xw ad kk (up2 V 73 i v) L Z := by
    refine xw_bs (by omega) (xs_up (by decide)) ?_ (fun j hj => xb_up (fun e => hj (Option.some.inj e).symm))
    rw [xjFrame h]
    unfold xeFrame xfFrame
    rw [up2_ss]
    rfl
  rw [show 38 + (298 + i) = 336 + i from by omega] at e
  exact e
theorem xpFrame_arg {ad : Nat → Nat} {kk : Nat → ClassId} {V : Vf} {L : Lf} {Z : XZ} {i : Nat} {v : Int32} (h : i < Z.nf) : (xw ad kk V L Z).set (336 + i) (Z.fa i, .inr (4, (xfFrame V i).set 7 (.int v))) = xw ad kk (up2 V 74 i v) L Z := by
  have e : (xw ad kk V L Z).set (38 + (298 + i)) (Z.fa i, .inr (4, (xfFrame V i).set 7 (.int v))) = xw ad kk (up2 V 74 i v) L Z := by
    refine xw_bs (by omega) (xs_up (by decide)) ?_ (fun j hj => xb_up (fun e => hj (Option.some.inj e).symm))
    rw [xjFrame h]
    unfold xeFrame xfFrame
    rw [up2_ss]
    rfl
  rw [show 38 + (298 + i) = 336 + i from by omega] at e
  exact e
theorem xpFrame_position {ad : Nat → Nat} {kk : Nat → ClassId} {V : Vf} {L : Lf} {Z : XZ} {i : Nat} {v : Int32} (h : i < Z.nf) : (xw ad kk V L Z).set (336 + i) (Z.fa i, .inr (4, (xfFrame V i).set 8 (.int v))) = xw ad kk (up2 V 75 i v) L Z := by
  have e : (xw ad kk V L Z).set (38 + (298 + i)) (Z.fa i, .inr (4, (xfFrame V i).set 8 (.int v))) = xw ad kk (up2 V 75 i v) L Z := by
    refine xw_bs (by omega) (xs_up (by decide)) ?_ (fun j hj => xb_up (fun e => hj (Option.some.inj e).symm))
    rw [xjFrame h]
    unfold xeFrame xfFrame
    rw [up2_ss]
    rfl
  rw [show 38 + (298 + i) = 336 + i from by omega] at e
  exact e
theorem xpFrame_item {ad : Nat → Nat} {kk : Nat → ClassId} {V : Vf} {L : Lf} {Z : XZ} {i : Nat} {v : Int32} (h : i < Z.nf) : (xw ad kk V L Z).set (336 + i) (Z.fa i, .inr (4, (xfFrame V i).set 9 (.int v))) = xw ad kk (up2 V 76 i v) L Z := by
  have e : (xw ad kk V L Z).set (38 + (298 + i)) (Z.fa i, .inr (4, (xfFrame V i).set 9 (.int v))) = xw ad kk (up2 V 76 i v) L Z := by
    refine xw_bs (by omega) (xs_up (by decide)) ?_ (fun j hj => xb_up (fun e => hj (Option.some.inj e).symm))
    rw [xjFrame h]
    unfold xeFrame xfFrame
    rw [up2_ss]
    rfl
  rw [show 38 + (298 + i) = 336 + i from by omega] at e
  exact e
theorem xpFrame_target {ad : Nat → Nat} {kk : Nat → ClassId} {V : Vf} {L : Lf} {Z : XZ} {i : Nat} {v : Int32} (h : i < Z.nf) : (xw ad kk V L Z).set (336 + i) (Z.fa i, .inr (4, (xfFrame V i).set 10 (.int v))) = xw ad kk (up2 V 77 i v) L Z := by
  have e : (xw ad kk V L Z).set (38 + (298 + i)) (Z.fa i, .inr (4, (xfFrame V i).set 10 (.int v))) = xw ad kk (up2 V 77 i v) L Z := by
    refine xw_bs (by omega) (xs_up (by decide)) ?_ (fun j hj => xb_up (fun e => hj (Option.some.inj e).symm))
    rw [xjFrame h]
    unfold xeFrame xfFrame
    rw [up2_ss]
    rfl
  rw [show 38 + (298 + i) = 336 + i from by omega] at e
  exact e
theorem xpFrame_given {ad : Nat → Nat} {kk : Nat → ClassId} {V : Vf} {L : Lf} {Z : XZ} {i : Nat} {v : Int32} (h : i < Z.nf) : (xw ad kk V L Z).set (336 + i) (Z.fa i, .inr (4, (xfFrame V i).set 11 (.int v))) = xw ad kk (up2 V 78 i v) L Z := by
  have e : (xw ad kk V L Z).set (38 + (298 + i)) (Z.fa i, .inr (4, (xfFrame V i).set 11 (.int v))) = xw ad kk (up2 V 78 i v) L Z := by
    refine xw_bs (by omega) (xs_up (by decide)) ?_ (fun j hj => xb_up (fun e => hj (Option.some.inj e).symm))
    rw [xjFrame h]
    unfold xeFrame xfFrame
    rw [up2_ss]
    rfl
  rw [show 38 + (298 + i) = 336 + i from by omega] at e
  exact e
theorem xpFrame_sum {ad : Nat → Nat} {kk : Nat → ClassId} {V : Vf} {L : Lf} {Z : XZ} {i : Nat} {v : Int32} (h : i < Z.nf) : (xw ad kk V L Z).set (336 + i) (Z.fa i, .inr (4, (xfFrame V i).set 12 (.int v))) = xw ad kk (up2 V 79 i v) L Z := by
  have e : (xw ad kk V L Z).set (38 + (298 + i)) (Z.fa i, .inr (4, (xfFrame V i).set 12 (.int v))) = xw ad kk (up2 V 79 i v) L Z := by
    refine xw_bs (by omega) (xs_up (by decide)) ?_ (fun j hj => xb_up (fun e => hj (Option.some.inj e).symm))
    rw [xjFrame h]
    unfold xeFrame xfFrame
    rw [up2_ss]
    rfl
  rw [show 38 + (298 + i) = 336 + i from by omega] at e
  exact e
theorem xpFrame_mark {ad : Nat → Nat} {kk : Nat → ClassId} {V : Vf} {L : Lf} {Z : XZ} {i : Nat} {v : Int32} (h : i < Z.nf) : (xw ad kk V L Z).set (336 + i) (Z.fa i, .inr (4, (xfFrame V i).set 13 (.int v))) = xw ad kk (up2 V 80 i v) L Z := by
  have e : (xw ad kk V L Z).set (38 + (298 + i)) (Z.fa i, .inr (4, (xfFrame V i).set 13 (.int v))) = xw ad kk (up2 V 80 i v) L Z := by
    refine xw_bs (by omega) (xs_up (by decide)) ?_ (fun j hj => xb_up (fun e => hj (Option.some.inj e).symm))
    rw [xjFrame h]
    unfold xeFrame xfFrame
    rw [up2_ss]
    rfl
  rw [show 38 + (298 + i) = 336 + i from by omega] at e
  exact e
theorem xpFrame_needs {ad : Nat → Nat} {kk : Nat → ClassId} {V : Vf} {L : Lf} {Z : XZ} {i : Nat} {v : Int32} (h : i < Z.nf) : (xw ad kk V L Z).set (336 + i) (Z.fa i, .inr (4, (xfFrame V i).set 14 (.int v))) = xw ad kk (up2 V 81 i v) L Z := by
  have e : (xw ad kk V L Z).set (38 + (298 + i)) (Z.fa i, .inr (4, (xfFrame V i).set 14 (.int v))) = xw ad kk (up2 V 81 i v) L Z := by
    refine xw_bs (by omega) (xs_up (by decide)) ?_ (fun j hj => xb_up (fun e => hj (Option.some.inj e).symm))
    rw [xjFrame h]
    unfold xeFrame xfFrame
    rw [up2_ss]
    rfl
  rw [show 38 + (298 + i) = 336 + i from by omega] at e
  exact e
theorem xpFrame_failure {ad : Nat → Nat} {kk : Nat → ClassId} {V : Vf} {L : Lf} {Z : XZ} {i : Nat} {v : Int32} (h : i < Z.nf) : (xw ad kk V L Z).set (336 + i) (Z.fa i, .inr (4, (xfFrame V i).set 15 (.int v))) = xw ad kk (up2 V 82 i v) L Z := by
  have e : (xw ad kk V L Z).set (38 + (298 + i)) (Z.fa i, .inr (4, (xfFrame V i).set 15 (.int v))) = xw ad kk (up2 V 82 i v) L Z := by
    refine xw_bs (by omega) (xs_up (by decide)) ?_ (fun j hj => xb_up (fun e => hj (Option.some.inj e).symm))
    rw [xjFrame h]
    unfold xeFrame xfFrame
    rw [up2_ss]
    rfl
  rw [show 38 + (298 + i) = 336 + i from by omega] at e
  exact e
theorem xpFrame_spent {ad : Nat → Nat} {kk : Nat → ClassId} {V : Vf} {L : Lf} {Z : XZ} {i : Nat} {v : Int32} (h : i < Z.nf) : (xw ad kk V L Z).set (336 + i) (Z.fa i, .inr (4, (xfFrame V i).set 16 (.int v))) = xw ad kk (up2 V 83 i v) L Z := by
  have e : (xw ad kk V L Z).set (38 + (298 + i)) (Z.fa i, .inr (4, (xfFrame V i).set 16 (.int v))) = xw ad kk (up2 V 83 i v) L Z := by
    refine xw_bs (by omega) (xs_up (by decide)) ?_ (fun j hj => xb_up (fun e => hj (Option.some.inj e).symm))
    rw [xjFrame h]
    unfold xeFrame xfFrame
    rw [up2_ss]
    rfl
  rw [show 38 + (298 + i) = 336 + i from by omega] at e
  exact e
theorem xpFrame_at {ad : Nat → Nat} {kk : Nat → ClassId} {V : Vf} {L : Lf} {Z : XZ} {i : Nat} {v : Int32} (h : i < Z.nf) : (xw ad kk V L Z).set (336 + i) (Z.fa i, .inr (4, (xfFrame V i).set 17 (.int v))) = xw ad kk (up2 V 84 i v) L Z := by
  have e : (xw ad kk V L Z).set (38 + (298 + i)) (Z.fa i, .inr (4, (xfFrame V i).set 17 (.int v))) = xw ad kk (up2 V 84 i v) L Z := by
    refine xw_bs (by omega) (xs_up (by decide)) ?_ (fun j hj => xb_up (fun e => hj (Option.some.inj e).symm))
    rw [xjFrame h]
    unfold xeFrame xfFrame
    rw [up2_ss]
    rfl
  rw [show 38 + (298 + i) = 336 + i from by omega] at e
  exact e
theorem xpFrame_base {ad : Nat → Nat} {kk : Nat → ClassId} {V : Vf} {L : Lf} {Z : XZ} {i : Nat} {v : Int32} (h : i < Z.nf) : (xw ad kk V L Z).set (336 + i) (Z.fa i, .inr (4, (xfFrame V i).set 18 (.int v))) = xw ad kk (up2 V 85 i v) L Z := by
  have e : (xw ad kk V L Z).set (38 + (298 + i)) (Z.fa i, .inr (4, (xfFrame V i).set 18 (.int v))) = xw ad kk (up2 V 85 i v) L Z := by
    refine xw_bs (by omega) (xs_up (by decide)) ?_ (fun j hj => xb_up (fun e => hj (Option.some.inj e).symm))
    rw [xjFrame h]
    unfold xeFrame xfFrame
    rw [up2_ss]
    rfl
  rw [show 38 + (298 + i) = 336 + i from by omega] at e
  exact e
theorem xpwords {ad : Nat → Nat} {kk : Nat → ClassId} {V : Vf} {L : Lf} {Z : XZ} {i e : Nat} {x : Int64} (h : i < 10) (he : e < 24) : (xw ad kk V L Z).set (50 + i) (ad (50 + i), .inl (kk (50 + i), xcap i, .inr (.inl (vp_updL (fun q => if q < 24 then L 44 (24 * i + q) else 0) e x)))) = xw ad kk V (upL L 44 (24 * i + e) x) Z := by
  suffices e9 : (xw ad kk V L Z).set (38 + (12 + i)) (ad (50 + i), .inl (kk (50 + i), xcap i, .inr (.inl (vp_updL (fun q => if q < 24 then L 44 (24 * i + q) else 0) e x)))) = xw ad kk V (upL L 44 (24 * i + e) x) Z by
    rw [show 38 + (12 + i) = 50 + i from by omega] at e9
    exact e9
  refine xw_bs (by omega) xs_L ?_ (fun j hj => xe_L (fun a => hj (by rw [← a.2]; omega)))
  rw [xjwords h]
  unfold xewords
  have e2 : (fun q => if q < 24 then upL L 44 (24 * i + e) x 44 (24 * i + q) else 0) = vp_updL (fun q => if q < 24 then L 44 (24 * i + q) else 0) e x := by
    funext q
    unfold vp_updL
    by_cases hq : q = e
    · rw [if_pos hq, if_pos (by omega), hq]
      unfold upL vp_updL
      rw [if_pos rfl, if_pos rfl]
    · rw [if_neg hq]
      show _ = if q < 24 then L 44 (24 * i + q) else 0
      by_cases h2 : q < 24
      · rw [if_pos h2, if_pos h2]
        exact upL_pl (fun a => hq (by omega))
      · rw [if_neg h2, if_neg h2]
  rw [e2]
theorem xptypeUnder {ad : Nat → Nat} {kk : Nat → ClassId} {V : Vf} {L : Lf} {Z : XZ} {i e : Nat} {x : Int32} (h : i < 2) (he : e < 24) : (xw ad kk V L Z).set (60 + i) (ad (60 + i), .inl (kk (60 + i), 24, .inl (upd (fun q => if q < 24 then V 45 (24 * i + q) else 0) e x))) = xw ad kk (up2 V 45 (24 * i + e) x) L Z := by
  suffices e9 : (xw ad kk V L Z).set (38 + (22 + i)) (ad (60 + i), .inl (kk (60 + i), 24, .inl (upd (fun q => if q < 24 then V 45 (24 * i + q) else 0) e x))) = xw ad kk (up2 V 45 (24 * i + e) x) L Z by
    rw [show 38 + (22 + i) = 60 + i from by omega] at e9
    exact e9
  refine xw_bs (by omega) (xs_up (by decide)) ?_ (fun j hj => xb_up (fun a => hj ?_))
  · rw [xjtypeUnder h]
    unfold xetypeUnder
    have e2 : (fun q => if q < 24 then up2 V 45 (24 * i + e) x 45 (24 * i + q) else 0) = upd (fun q => if q < 24 then V 45 (24 * i + q) else 0) e x := by
      funext q
      by_cases hq : q = e
      · rw [hq, if_pos he, up2_ss]
        exact pk_us.symm
      · rw [pk_un hq]
        by_cases h2 : q < 24
        · rw [if_pos h2, if_pos h2]
          exact up2_pl (fun a => hq (by omega))
        · rw [if_neg h2, if_neg h2]
    rw [e2]
  · have a2 : some (22 + (24 * i + e) / 24) = some j := a
    have a3 := Option.some.inj a2
    omega
theorem xpsettingValues {ad : Nat → Nat} {kk : Nat → ClassId} {V : Vf} {L : Lf} {Z : XZ} {i e : Nat} {x : Int32} (h : i < 2) (he : e < 12) : (xw ad kk V L Z).set (62 + i) (ad (62 + i), .inl (kk (62 + i), 12, .inl (upd (fun q => if q < 12 then V 46 (12 * i + q) else 0) e x))) = xw ad kk (up2 V 46 (12 * i + e) x) L Z := by
  suffices e9 : (xw ad kk V L Z).set (38 + (24 + i)) (ad (62 + i), .inl (kk (62 + i), 12, .inl (upd (fun q => if q < 12 then V 46 (12 * i + q) else 0) e x))) = xw ad kk (up2 V 46 (12 * i + e) x) L Z by
    rw [show 38 + (24 + i) = 62 + i from by omega] at e9
    exact e9
  refine xw_bs (by omega) (xs_up (by decide)) ?_ (fun j hj => xb_up (fun a => hj ?_))
  · rw [xjsettingValues h]
    unfold xesettingValues
    have e2 : (fun q => if q < 12 then up2 V 46 (12 * i + e) x 46 (12 * i + q) else 0) = upd (fun q => if q < 12 then V 46 (12 * i + q) else 0) e x := by
      funext q
      by_cases hq : q = e
      · rw [hq, if_pos he, up2_ss]
        exact pk_us.symm
      · rw [pk_un hq]
        by_cases h2 : q < 12
        · rw [if_pos h2, if_pos h2]
          exact up2_pl (fun a => hq (by omega))
        · rw [if_neg h2, if_neg h2]
    rw [e2]
  · have a2 : some (24 + (12 * i + e) / 12) = some j := a
    have a3 := Option.some.inj a2
    omega
theorem xpwrapOrder {ad : Nat → Nat} {kk : Nat → ClassId} {V : Vf} {L : Lf} {Z : XZ} {i e : Nat} {x : Int32} (h : i < 2) (he : e < 12) : (xw ad kk V L Z).set (68 + i) (ad (68 + i), .inl (kk (68 + i), 12, .inl (upd (fun q => if q < 12 then V 47 (12 * i + q) else 0) e x))) = xw ad kk (up2 V 47 (12 * i + e) x) L Z := by
  suffices e9 : (xw ad kk V L Z).set (38 + (30 + i)) (ad (68 + i), .inl (kk (68 + i), 12, .inl (upd (fun q => if q < 12 then V 47 (12 * i + q) else 0) e x))) = xw ad kk (up2 V 47 (12 * i + e) x) L Z by
    rw [show 38 + (30 + i) = 68 + i from by omega] at e9
    exact e9
  refine xw_bs (by omega) (xs_up (by decide)) ?_ (fun j hj => xb_up (fun a => hj ?_))
  · rw [xjwrapOrder h]
    unfold xewrapOrder
    have e2 : (fun q => if q < 12 then up2 V 47 (12 * i + e) x 47 (12 * i + q) else 0) = upd (fun q => if q < 12 then V 47 (12 * i + q) else 0) e x := by
      funext q
      by_cases hq : q = e
      · rw [hq, if_pos he, up2_ss]
        exact pk_us.symm
      · rw [pk_un hq]
        by_cases h2 : q < 12
        · rw [if_pos h2, if_pos h2]
          exact up2_pl (fun a => hq (by omega))
        · rw [if_neg h2, if_neg h2]
    rw [e2]
  · have a2 : some (30 + (12 * i + e) / 12) = some j := a
    have a3 := Option.some.inj a2
    omega
theorem xpcode {ad : Nat → Nat} {kk : Nat → ClassId} {V : Vf} {L : Lf} {Z : XZ} {i e : Nat} {x : Int32} (h : i < 2) (he : e < 8200) : (xw ad kk V L Z).set (70 + i) (ad (70 + i), .inl (kk (70 + i), 8200, .inl (upd (fun q => if q < 8200 then V 48 (8200 * i + q) else 0) e x))) = xw ad kk (up2 V 48 (8200 * i + e) x) L Z := by
  suffices e9 : (xw ad kk V L Z).set (38 + (32 + i)) (ad (70 + i), .inl (kk (70 + i), 8200, .inl (upd (fun q => if q < 8200 then V 48 (8200 * i + q) else 0) e x))) = xw ad kk (up2 V 48 (8200 * i + e) x) L Z by
    rw [show 38 + (32 + i) = 70 + i from by omega] at e9
    exact e9
  refine xw_bs (by omega) (xs_up (by decide)) ?_ (fun j hj => xb_up (fun a => hj ?_))
  · rw [xjcode h]
    unfold xecode
    have e2 : (fun q => if q < 8200 then up2 V 48 (8200 * i + e) x 48 (8200 * i + q) else 0) = upd (fun q => if q < 8200 then V 48 (8200 * i + q) else 0) e x := by
      funext q
      by_cases hq : q = e
      · rw [hq, if_pos he, up2_ss]
        exact pk_us.symm
      · rw [pk_un hq]
        by_cases h2 : q < 8200
        · rw [if_pos h2, if_pos h2]
          exact up2_pl (fun a => hq (by omega))
        · rw [if_neg h2, if_neg h2]
    rw [e2]
  · have a2 : some (32 + (8200 * i + e) / 8200) = some j := a
    have a3 := Option.some.inj a2
    omega
theorem xpneedTypes {ad : Nat → Nat} {kk : Nat → ClassId} {V : Vf} {L : Lf} {Z : XZ} {i e : Nat} {x : Int32} (h : i < 48) (he : e < 8) : (xw ad kk V L Z).set (120 + i) (ad (120 + i), .inl (kk (120 + i), 8, .inl (upd (fun q => if q < 8 then V 58 (8 * i + q) else 0) e x))) = xw ad kk (up2 V 58 (8 * i + e) x) L Z := by
  suffices e9 : (xw ad kk V L Z).set (38 + (82 + i)) (ad (120 + i), .inl (kk (120 + i), 8, .inl (upd (fun q => if q < 8 then V 58 (8 * i + q) else 0) e x))) = xw ad kk (up2 V 58 (8 * i + e) x) L Z by
    rw [show 38 + (82 + i) = 120 + i from by omega] at e9
    exact e9
  refine xw_bs (by omega) (xs_up (by decide)) ?_ (fun j hj => xb_up (fun a => hj ?_))
  · rw [xjneedTypes h]
    unfold xeneedTypes
    have e2 : (fun q => if q < 8 then up2 V 58 (8 * i + e) x 58 (8 * i + q) else 0) = upd (fun q => if q < 8 then V 58 (8 * i + q) else 0) e x := by
      funext q
      by_cases hq : q = e
      · rw [hq, if_pos he, up2_ss]
        exact pk_us.symm
      · rw [pk_un hq]
        by_cases h2 : q < 8
        · rw [if_pos h2, if_pos h2]
          exact up2_pl (fun a => hq (by omega))
        · rw [if_neg h2, if_neg h2]
    rw [e2]
  · have a2 : some (82 + (8 * i + e) / 8) = some j := a
    have a3 := Option.some.inj a2
    omega
theorem xpneedWords {ad : Nat → Nat} {kk : Nat → ClassId} {V : Vf} {L : Lf} {Z : XZ} {i e : Nat} {x : Int32} (h : i < 48) (he : e < 8) : (xw ad kk V L Z).set (168 + i) (ad (168 + i), .inl (kk (168 + i), 8, .inl (upd (fun q => if q < 8 then V 59 (8 * i + q) else 0) e x))) = xw ad kk (up2 V 59 (8 * i + e) x) L Z := by
  suffices e9 : (xw ad kk V L Z).set (38 + (130 + i)) (ad (168 + i), .inl (kk (168 + i), 8, .inl (upd (fun q => if q < 8 then V 59 (8 * i + q) else 0) e x))) = xw ad kk (up2 V 59 (8 * i + e) x) L Z by
    rw [show 38 + (130 + i) = 168 + i from by omega] at e9
    exact e9
  refine xw_bs (by omega) (xs_up (by decide)) ?_ (fun j hj => xb_up (fun a => hj ?_))
  · rw [xjneedWords h]
    unfold xeneedWords
    have e2 : (fun q => if q < 8 then up2 V 59 (8 * i + e) x 59 (8 * i + q) else 0) = upd (fun q => if q < 8 then V 59 (8 * i + q) else 0) e x := by
      funext q
      by_cases hq : q = e
      · rw [hq, if_pos he, up2_ss]
        exact pk_us.symm
      · rw [pk_un hq]
        by_cases h2 : q < 8
        · rw [if_pos h2, if_pos h2]
          exact up2_pl (fun a => hq (by omega))
        · rw [if_neg h2, if_neg h2]
    rw [e2]
  · have a2 : some (130 + (8 * i + e) / 8) = some j := a
    have a3 := Option.some.inj a2
    omega
theorem xpneedKinds {ad : Nat → Nat} {kk : Nat → ClassId} {V : Vf} {L : Lf} {Z : XZ} {i e : Nat} {x : Int32} (h : i < 48) (he : e < 8) : (xw ad kk V L Z).set (216 + i) (ad (216 + i), .inl (kk (216 + i), 8, .inl (upd (fun q => if q < 8 then V 60 (8 * i + q) else 0) e x))) = xw ad kk (up2 V 60 (8 * i + e) x) L Z := by
  suffices e9 : (xw ad kk V L Z).set (38 + (178 + i)) (ad (216 + i), .inl (kk (216 + i), 8, .inl (upd (fun q => if q < 8 then V 60 (8 * i + q) else 0) e x))) = xw ad kk (up2 V 60 (8 * i + e) x) L Z by
    rw [show 38 + (178 + i) = 216 + i from by omega] at e9
    exact e9
  refine xw_bs (by omega) (xs_up (by decide)) ?_ (fun j hj => xb_up (fun a => hj ?_))
  · rw [xjneedKinds h]
    unfold xeneedKinds
    have e2 : (fun q => if q < 8 then up2 V 60 (8 * i + e) x 60 (8 * i + q) else 0) = upd (fun q => if q < 8 then V 60 (8 * i + q) else 0) e x := by
      funext q
      by_cases hq : q = e
      · rw [hq, if_pos he, up2_ss]
        exact pk_us.symm
      · rw [pk_un hq]
        by_cases h2 : q < 8
        · rw [if_pos h2, if_pos h2]
          exact up2_pl (fun a => hq (by omega))
        · rw [if_neg h2, if_neg h2]
    rw [e2]
  · have a2 : some (178 + (8 * i + e) / 8) = some j := a
    have a3 := Option.some.inj a2
    omega
theorem xpmethodStarts {ad : Nat → Nat} {kk : Nat → ClassId} {V : Vf} {L : Lf} {Z : XZ} {i e : Nat} {x : Int32} (h : i < 48) (he : e < 20) : (xw ad kk V L Z).set (264 + i) (ad (264 + i), .inl (kk (264 + i), 20, .inl (upd (fun q => if q < 20 then V 61 (20 * i + q) else 0) e x))) = xw ad kk (up2 V 61 (20 * i + e) x) L Z := by
  suffices e9 : (xw ad kk V L Z).set (38 + (226 + i)) (ad (264 + i), .inl (kk (264 + i), 20, .inl (upd (fun q => if q < 20 then V 61 (20 * i + q) else 0) e x))) = xw ad kk (up2 V 61 (20 * i + e) x) L Z by
    rw [show 38 + (226 + i) = 264 + i from by omega] at e9
    exact e9
  refine xw_bs (by omega) (xs_up (by decide)) ?_ (fun j hj => xb_up (fun a => hj ?_))
  · rw [xjmethodStarts h]
    unfold xemethodStarts
    have e2 : (fun q => if q < 20 then up2 V 61 (20 * i + e) x 61 (20 * i + q) else 0) = upd (fun q => if q < 20 then V 61 (20 * i + q) else 0) e x := by
      funext q
      by_cases hq : q = e
      · rw [hq, if_pos he, up2_ss]
        exact pk_us.symm
      · rw [pk_un hq]
        by_cases h2 : q < 20
        · rw [if_pos h2, if_pos h2]
          exact up2_pl (fun a => hq (by omega))
        · rw [if_neg h2, if_neg h2]
    rw [e2]
  · have a2 : some (226 + (20 * i + e) / 20) = some j := a
    have a3 := Option.some.inj a2
    omega
theorem xgHouse {ad : Nat → Nat} {kk : Nat → ClassId} {V : Vf} {L : Lf} {Z : XZ} : (xw ad kk V L Z)[0]? = some (ad 0, .inr (11, xfHouse ad V L Z)) := rfl
theorem xgReader {ad : Nat → Nat} {kk : Nat → ClassId} {V : Vf} {L : Lf} {Z : XZ} : (xw ad kk V L Z)[1]? = some (ad 1, .inr (1, xfReader ad V L Z)) := rfl
theorem xgChecker {ad : Nat → Nat} {kk : Nat → ClassId} {V : Vf} {L : Lf} {Z : XZ} : (xw ad kk V L Z)[2]? = some (ad 2, .inr (2, xfChecker ad V L Z)) := rfl
theorem xgStock {ad : Nat → Nat} {kk : Nat → ClassId} {V : Vf} {L : Lf} {Z : XZ} : (xw ad kk V L Z)[3]? = some (ad 3, .inr (8, xfStock ad V L Z)) := rfl
theorem xgNotes {ad : Nat → Nat} {kk : Nat → ClassId} {V : Vf} {L : Lf} {Z : XZ} : (xw ad kk V L Z)[4]? = some (ad 4, .inr (7, xfNotes ad V L Z)) := rfl
theorem xgMachine {ad : Nat → Nat} {kk : Nat → ClassId} {V : Vf} {L : Lf} {Z : XZ} : (xw ad kk V L Z)[5]? = some (ad 5, .inr (5, xfMachine ad V L Z)) := rfl
theorem xgTape {ad : Nat → Nat} {kk : Nat → ClassId} {V : Vf} {L : Lf} {Z : XZ} : (xw ad kk V L Z)[6]? = some (ad 6, .inr (9, xfTape ad V L Z)) := rfl
def bX0 (k : Nat) : Int × Int := match k with
  | 6 => (0, 1)
  | 7 => (0, 1)
  | 8 => (0, 1)
  | _ => (-2147483648, 2147483647)
def bX1 (k : Nat) : Int × Int := match k with
  | 1 => ((-1), 1)
  | 2 => ((-1), 47)
  | 4 => (0, 2)
  | 6 => ((-1), 23)
  | 8 => (0, 999999999)
  | _ => (-2147483648, 2147483647)
def bX2 (k : Nat) : Int × Int := match k with
  | 6 => ((-1), 1)
  | 7 => (0, 1000000)
  | _ => (-2147483648, 2147483647)
def bX3 (k : Nat) : Int × Int := match k with
  | 12 => (1, 40)
  | 13 => (0, 300)
  | 15 => (0, 262144)
  | _ => (-2147483648, 2147483647)
def bX4 (k : Nat) : Int × Int := match k with
  | 5 => (0, 100)
  | 6 => (0, 300)
  | 9 => (0, 1)
  | _ => (-2147483648, 2147483647)
def bX5 (k : Nat) : Int × Int := match k with
  | 5 => (0, 1)
  | 6 => (0, 400)
  | 7 => (0, 2048)
  | 8 => (0, 300)
  | 9 => (0, 3)
  | 13 => (0, 3000)
  | 14 => (0, 60000)
  | _ => (-2147483648, 2147483647)
def bX6 (k : Nat) : Int × Int := match k with
  | 5 => (0, 4000)
  | 6 => (0, 4000)
  | 7 => (0, 4000)
  | 8 => (0, 4000)
  | 10 => (0, 4000)
  | _ => (-2147483648, 2147483647)
def bX (c k : Nat) : Int × Int := match c with
  | 0 => bX0 k
  | 1 => bX1 k
  | 2 => bX2 k
  | 3 => bX3 k
  | 4 => bX4 k
  | 5 => bX5 k
  | 6 => bX6 k
  | 43 => (0, (xcap k : Int))
  | 13 => (0, 4000)
  | 17 => ((-100), 24)
  | 19 => (0, 23)
  | 20 => ((-2), 23)
  | 22 => (0, 39)
  | 23 => (0, 1)
  | 25 => ((-1), 299)
  | 26 => (0, 23)
  | 27 => (0, 39)
  | 30 => ((-1), 262143)
  | 32 => ((-1), 262143)
  | 40 => (0, 299)
  | 41 => (0, 12)
  | 42 => (0, 8200)
  | 47 => (0, 11)
  | 49 => (0, 8)
  | 51 => (0, 3)
  | 54 => ((-1), 11)
  | 56 => ((-1), 8200)
  | 57 => ((-1), 8200)
  | 61 => ((-1), 8200)
  | 66 => (0, 8200)
  | 71 => ((-1), 23)
  | 72 => (0, 39)
  | 73 => (0, 19)
  | 75 => (0, 12)
  | 77 => (0, 19)
  | 80 => (0, 300)
  | 83 => (0, 1)
  | 84 => (0, 2147483647)
  | 85 => (0, 2048)
  | _ => (-2147483648, 2147483647)
theorem rfN_r {ad : Nat → Nat} {b n : Nat} {x : Int32} (h : x.toInt = (n : Int)) : rfN ad b x = .ref (ad (b + n)) := by
  unfold rfN
  have e : Int32.toNatClampNeg x = n := by have := i_clamp (x := x) rfl (by omega); omega
  rw [if_neg (by omega), e]
theorem rfN_n {ad : Nat → Nat} {b : Nat} {x : Int32} (h : x.toInt < 0) : rfN ad b x = .null := by
  unfold rfN
  rw [if_pos h]
theorem rfP {ad : Nat → Nat} {b n : Nat} {x : Int32} (h : x.toInt = (n : Int)) : Value.ref (ad (b + Int32.toNatClampNeg x)) = .ref (ad (b + n)) := by
  have e : Int32.toNatClampNeg x = n := by have := i_clamp (x := x) rfl (by omega); omega
  rw [e]
theorem xow_s {c k : Nat} (h : c ≤ 40) : xow c k = none := by
  unfold xow
  repeat rw [if_neg (by omega)]
theorem xb_si {ad : Nat → Nat} {kk : Nat → ClassId} {V : Vf} {L : Lf} {Z : XZ} {c k : Nat} {v : Int32} (h : c ≤ 40) (j : Nat) : xb ad kk (up2 V c k v) L Z j = xb ad kk V L Z j := xb_up (by rw [xow_s h]; exact fun e => nomatch e)
section GXS
variable {p : Program} {l : Launch} {e : Env} {R : Room} {s : State} {m : MethodId} {args : Array Value} {below : List Frame} {meth : Method} {c : Code} {H : Heap} {locs : List Loc} {cells slots : Nat} {Q : State → Prop}
variable {cc : ByteArray} {pc : Nat} {ls : Array Slot} {st0 rest : List Value} {D : va_G} {ks : KS} {A : Nat → Prop} {tys : List (ClassId × FieldType)} {ws : va_W}
theorem gA_runS {y : MethodName} {bytes : ByteArray} {maxL nL n index : Nat} {ret : Option FieldType} {rm : Room} {Qc : Array Value → State → Outcome → State → Prop} {own : String} {As : List Value}
    (hx : p.tables.exec = Jvm.exec) (hb : c.code = cc) (hml : c.maxLocals = nL) (hown : s.vm.findClass own = some m.cls) (hg : ∀ w ∈ GW, w.before args s = true) (hP : va_P D vwCl ws H) (hD : va_D A ws) (hK : va_K D vwCl tys s) (hS : va_S A s.heap H locs) (hA : ∀ q, s.heap.size ≤ q → A q) (hnw : nw s) (hgk : gk ks A s s.heap)
    (hM : Met l y (Cond.code y bytes maxL ret :: GW) rm (va_Pc As (gp D ks ws tys H.size)) Qc rm.cells rm.slots (va_A ws H.size))
    (w1 : Cond.methodLink own index y ∈ GW) (w2 : Cond.static y ∈ GW) (w4 : Cond.initialized y.cls ∈ GW) (w5 : Cond.code y bytes maxL ret ∈ GW)
    (hd : y.cls ≠ "java/lang/invoke/MethodHandle" ∧ y.cls ≠ "java/lang/invoke/VarHandle" ∧ (parseMethodDescriptor y.desc).map (fun d => d.parameters.length) = some n) (hR : rm.frames + 1 ≤ R.frames ∧ 8 + (maxL + 11) + rm.locals ≤ R.locals)
    (hn2 : As.length = n) (hsize : ls.size = nL) (hst : st0 = As.reverse ++ rest) (hW : (rest.map fun v => v.category).sum ≤ 8) (hdg : decode cc pc = .ok (.invokestatic index, 3)) (hf : cells + rm.cells ≤ R.cells ∧ slots + rm.slots ≤ R.slots) :
    va_Run p l e R s m args below meth c H locs cells slots rm.cells rm.slots (F0 m pc ls st0) rest (Qc As.toArray) (va_A ws H.size) :=
  va_runS (As := As) (rest := rest) ⟨hx, hb, hml, hown, hg⟩ hM ⟨callB_of n hg (gw_good gw_self (gw_cons w5 gw_self)) rfl rfl rfl (hg _ w4) (hg _ w1) hd hR, hg _ w2⟩ ⟨gp_blind, gA_cut hP hD hK hS hA hnw hgk⟩ rfl hn2 hsize hst (lv_room hW) hdg hf
end GXS
section GX
variable {p : Program} {l : Launch} {e : Env} {R : Room} {s : State} {m : MethodId} {args : Array Value} {below : List Frame} {meth : Method} {c : Code} {H : Heap} {locs : List Loc} {cells slots : Nat} {Q : State → Prop}
variable {pc : Nat} {ls : Array Slot} {rest : List Value}
theorem g_topv {x v : Value} (h : x = v) (k : W p l e R s m args below meth c H locs cells slots Q (F0 m pc ls (v :: rest))) : W p l e R s m args below meth c H locs cells slots Q (F0 m pc ls (x :: rest)) := h ▸ k
end GX
theorem xcap_0 {b : Nat} : xcap (5 * b + 0) = 24 := by
  unfold xcap
  rw [show (5 * b + 0) % 5 = 0 from by omega]
  rfl
theorem xcap_1 {b : Nat} : xcap (5 * b + 1) = 12 := by
  unfold xcap
  rw [show (5 * b + 1) % 5 = 1 from by omega]
  rfl
theorem xcap_2 {b : Nat} : xcap (5 * b + 2) = 24 := by
  unfold xcap
  rw [show (5 * b + 2) % 5 = 2 from by omega]
  rfl
theorem xcap_3 {b : Nat} : xcap (5 * b + 3) = 20 := by
  unfold xcap
  rw [show (5 * b + 3) % 5 = 3 from by omega]
  rfl
theorem xcap_4 {b : Nat} : xcap (5 * b + 4) = 20 := by
  unfold xcap
  rw [show (5 * b + 4) % 5 = 4 from by omega]
  rfl
theorem xcap_le (n : Nat) : 12 ≤ xcap n ∧ xcap n ≤ 24 := by
  unfold xcap
  split <;> decide
theorem xr_rbook {ad : Nat → Nat} {kk : Nat → ClassId} {V : Vf} {L : Lf} {Z : XZ} {b : Nat} (h : b < 2) : (xw ad kk V L Z).set 1 (ad 1, .inr (1, (xfReader ad V L Z).set 1 (.ref (ad (38 + b))))) = xw ad kk (up2 V 1 1 (nI b)) L Z := by
  have e2 : xfReader ad (up2 V 1 1 (nI b)) L Z = (xfReader ad V L Z).set 1 (.ref (ad (38 + b))) := by
    unfold xfReader
    rw [up2_ss, rfN_r (nI_toInt (n := b) (by omega))]
    rfl
  refine xw_ss (by decide) ?_ (xb_si (by decide))
  unfold xs
  rw [e2]
  rfl
theorem xr_owner {ad : Nat → Nat} {kk : Nat → ClassId} {V : Vf} {L : Lf} {Z : XZ} {b : Nat} (h : b < 48) : (xw ad kk V L Z).set 1 (ad 1, .inr (1, (xfReader ad V L Z).set 2 (.ref (ad (72 + b))))) = xw ad kk (up2 V 1 2 (nI b)) L Z := by
  have e2 : xfReader ad (up2 V 1 2 (nI b)) L Z = (xfReader ad V L Z).set 2 (.ref (ad (72 + b))) := by
    unfold xfReader
    rw [up2_ss, rfN_r (nI_toInt (n := b) (by omega))]
    rfl
  refine xw_ss (by decide) ?_ (xb_si (by decide))
  unfold xs
  rw [e2]
  rfl
theorem xr_owner_n {ad : Nat → Nat} {kk : Nat → ClassId} {V : Vf} {L : Lf} {Z : XZ} : (xw ad kk V L Z).set 1 (ad 1, .inr (1, (xfReader ad V L Z).set 2 .null)) = xw ad kk (up2 V 1 2 (-1)) L Z := by
  have e2 : xfReader ad (up2 V 1 2 (-1)) L Z = (xfReader ad V L Z).set 2 .null := by
    unfold xfReader
    rw [up2_ss, rfN_n (x := (-1 : Int32)) (by decide)]
    rfl
  refine xw_ss (by decide) ?_ (xb_si (by decide))
  unfold xs
  rw [e2]
  rfl
theorem xr_cbook {ad : Nat → Nat} {kk : Nat → ClassId} {V : Vf} {L : Lf} {Z : XZ} {b : Nat} (h : b < 2) : (xw ad kk V L Z).set 2 (ad 2, .inr (2, (xfChecker ad V L Z).set 6 (.ref (ad (38 + b))))) = xw ad kk (up2 V 2 6 (nI b)) L Z := by
  have e2 : xfChecker ad (up2 V 2 6 (nI b)) L Z = (xfChecker ad V L Z).set 6 (.ref (ad (38 + b))) := by
    unfold xfChecker
    rw [up2_ss, rfN_r (nI_toInt (n := b) (by omega))]
    rfl
  refine xw_ss (by decide) ?_ (xb_si (by decide))
  unfold xs
  rw [e2]
  rfl
theorem xr_mbook {ad : Nat → Nat} {kk : Nat → ClassId} {V : Vf} {L : Lf} {Z : XZ} {b : Nat} (h : b < 2) : (xw ad kk V L Z).set 5 (ad 5, .inr (5, (xfMachine ad V L Z).set 5 (.ref (ad (38 + b))))) = xw ad kk (up2 V 5 5 (nI b)) L Z := by
  have e2 : xfMachine ad (up2 V 5 5 (nI b)) L Z = (xfMachine ad V L Z).set 5 (.ref (ad (38 + b))) := by
    unfold xfMachine
    rw [up2_ss, rfP (nI_toInt (n := b) (by omega))]
    rfl
  refine xw_ss (by decide) ?_ (xb_si (by decide))
  unfold xs
  rw [e2]
  rfl
theorem xr_shelf {ad : Nat → Nat} {kk : Nat → ClassId} {V : Vf} {L : Lf} {Z : XZ} {b : Nat} (h : b < 2) : (xw ad kk V L Z).set 0 (ad 0, .inr (11, (xfHouse ad V L Z).set 6 (.ref (ad (38 + b))))) = xw ad kk (up2 V 0 6 (nI b)) L Z := by
  have e2 : xfHouse ad (up2 V 0 6 (nI b)) L Z = (xfHouse ad V L Z).set 6 (.ref (ad (38 + b))) := by
    unfold xfHouse
    rw [up2_ss, rfP (nI_toInt (n := b) (by omega))]
    rfl
  refine xw_ss (by decide) ?_ (xb_si (by decide))
  unfold xs
  rw [e2]
  rfl
theorem xr_spare {ad : Nat → Nat} {kk : Nat → ClassId} {V : Vf} {L : Lf} {Z : XZ} {b : Nat} (h : b < 2) : (xw ad kk V L Z).set 0 (ad 0, .inr (11, (xfHouse ad V L Z).set 7 (.ref (ad (38 + b))))) = xw ad kk (up2 V 0 7 (nI b)) L Z := by
  have e2 : xfHouse ad (up2 V 0 7 (nI b)) L Z = (xfHouse ad V L Z).set 7 (.ref (ad (38 + b))) := by
    unfold xfHouse
    rw [up2_ss, rfP (nI_toInt (n := b) (by omega))]
    rfl
  refine xw_ss (by decide) ?_ (xb_si (by decide))
  unfold xs
  rw [e2]
  rfl
/-! which of the many may have changed -/
def xN (n : Nat) (x : Nat) : Nat × Nat := if x = 43 then (n, n + 1) else (0, 0)
def xI (i : Nat) (x : Nat) : Nat × Nat := if 49 ≤ x ∧ x ≤ 57 then (i, i + 1) else if 58 ≤ x ∧ x ≤ 60 then (8 * i, 8 * i + 8) else if x = 61 then (20 * i, 20 * i + 20) else (0, 0)
def xR (b : Nat) (x : Nat) : Nat × Nat := if x ≤ 42 then (b, b + 1) else if x = 43 then (5 * b, 5 * b + 5) else if x = 44 then (0, 0) else if x = 45 then (24 * b, 24 * b + 24) else if x = 46 ∨ x = 47 then (12 * b, 12 * b + 12) else if x = 48 then (8200 * b, 8200 * b + 8200) else if x ≤ 57 then (24 * b, 24 * b + 24) else if x ≤ 60 then (192 * b, 192 * b + 192) else if x = 61 then (480 * b, 480 * b + 480) else (12 * b, 12 * b + 12)
def frX (R : Nat → Nat × Nat) (V W : Vf) : Prop := ∀ x k, 41 ≤ x ∧ x ≤ 66 → (k < (R x).1 ∨ (R x).2 ≤ k) → W x k = V x k
theorem frX.rf {R : Nat → Nat × Nat} {V : Vf} : frX R V V := fun _ _ _ _ => rfl
theorem frX.tr {R : Nat → Nat × Nat} {V W X : Vf} (h : frX R V W) (h2 : frX R W X) : frX R V X := fun x k a b => (h2 x k a b).trans (h x k a b)
theorem frX.up {R : Nat → Nat × Nat} {V V1 V2 : Vf} {c k : Nat} {v : Int32} (h : frX R V V1) (e : V2 = up2 V1 c k v) (hk : ¬ (41 ≤ c ∧ c ≤ 66) ∨ ((R c).1 ≤ k ∧ k < (R c).2)) : frX R V V2 := by
  intro x j hx hj
  by_cases hc : x = c
  · subst hc
    rcases hk with hk | hk
    · exact absurd hx hk
    · exact (up2_k e (by omega)).trans (h x j hx hj)
  · exact (up2_o e hc).trans (h x j hx hj)
theorem frX.ag {R : Nat → Nat × Nat} {fs : List (Nat × Nat)} {cs : List Nat} {V W : Vf} (a : agr fs cs V W) (h1 : ∀ y ∈ fs, y.1 ≤ 40) (h2 : ∀ y ∈ cs, ¬ (41 ≤ y ∧ y ≤ 66)) : frX R V W := by
  intro x k hx _
  refine a x k ?_
  unfold wrL
  rw [Bool.or_eq_false_iff]
  refine ⟨?_, ?_⟩
  · rw [← Bool.not_eq_true]
    intro q
    have := h1 _ (List.contains_iff_mem.mp q)
    have : x ≤ 40 := this
    omega
  · rw [← Bool.not_eq_true]
    intro q
    exact h2 _ (List.contains_iff_mem.mp q) hx
theorem frX_NB {V W : Vf} {n b : Nat} (h : frX (xN n) V W) (h1 : 5 * b ≤ n) (h2 : n < 5 * b + 5) : frX (xR b) V W := by
  intro x k hx hk
  refine h x k hx ?_
  unfold xN
  by_cases hc : x = 43
  · subst hc
    have hk2 : k < 5 * b ∨ 5 * b + 5 ≤ k := hk
    rw [if_pos rfl]
    show k < n ∨ n + 1 ≤ k
    omega
  · rw [if_neg hc]
    exact Or.inr (Nat.zero_le _)
theorem frX_IB {V W : Vf} {i b : Nat} (h : frX (xI i) V W) (h1 : 24 * b ≤ i) (h2 : i < 24 * b + 24) : frX (xR b) V W := by
  intro x k hx hk
  refine h x k hx ?_
  unfold xI
  by_cases c1 : 49 ≤ x ∧ x ≤ 57
  · rw [if_pos c1]
    have e : xR b x = (24 * b, 24 * b + 24) := by
      unfold xR
      rw [if_neg (by omega), if_neg (by omega), if_neg (by omega), if_neg (by omega), if_neg (by omega), if_neg (by omega), if_pos (by omega)]
    rw [e] at hk
    have hk2 : k < 24 * b ∨ 24 * b + 24 ≤ k := hk
    show k < i ∨ i + 1 ≤ k
    omega
  · rw [if_neg c1]
    by_cases c2 : 58 ≤ x ∧ x ≤ 60
    · rw [if_pos c2]
      have e : xR b x = (192 * b, 192 * b + 192) := by
        unfold xR
        rw [if_neg (by omega), if_neg (by omega), if_neg (by omega), if_neg (by omega), if_neg (by omega), if_neg (by omega), if_neg (by omega), if_pos (by omega)]
      rw [e] at hk
      have hk2 : k < 192 * b ∨ 192 * b + 192 ≤ k := hk
      show k < 8 * i ∨ 8 * i + 8 ≤ k
      omega
    · rw [if_neg c2]
      by_cases c3 : x = 61
      · rw [if_pos c3]
        have e : xR b x = (480 * b, 480 * b + 480) := by
          unfold xR
          rw [if_neg (by omega), if_neg (by omega), if_neg (by omega), if_neg (by omega), if_neg (by omega), if_neg (by omega), if_neg (by omega), if_neg (by omega), if_pos (by omega)]
        rw [e] at hk
        have hk2 : k < 480 * b ∨ 480 * b + 480 ≤ k := hk
        show k < 20 * i ∨ 20 * i + 20 ≤ k
        omega
      · rw [if_neg c3]
        exact Or.inr (Nat.zero_le _)



