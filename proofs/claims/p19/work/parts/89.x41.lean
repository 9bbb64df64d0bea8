section
abbrev HU : Type := (Nat → Nat) × (Nat → ClassId) × (Nat → Int32) × (Nat → Int64) × BU × BU
def bU (u : HU) (b : Nat) : BU := if b = 0 then u.2.2.2.2.1 else u.2.2.2.2.2
def adU (u : HU) (j : Nat) : Nat :=
  if j < 40 then u.1 j else
  if j < 50 then (bU u ((j - 40) / 5)).1 (1 + (j - 40) % 5) else
  if j < 60 then (bU u ((j - 50) / 5)).1 (6 + (j - 50) % 5) else
  if j < 62 then (bU u (j - 60)).1 11 else
  if j < 64 then (bU u (j - 62)).1 12 else
  if j < 66 then (bU u (j - 64)).1 13 else
  if j < 68 then (bU u (j - 66)).1 14 else
  if j < 70 then (bU u (j - 68)).1 15 else
  if j < 72 then (bU u (j - 70)).1 16 else
  if j < 120 then ((bU u ((j - 72) / 24)).2.2.1 ((j - 72) % 24)).1 else
  if j < 168 then ((bU u ((j - 120) / 24)).2.2.1 ((j - 120) % 24)).2.1 else
  if j < 216 then ((bU u ((j - 168) / 24)).2.2.1 ((j - 168) % 24)).2.2.1 else
  if j < 264 then ((bU u ((j - 216) / 24)).2.2.1 ((j - 216) % 24)).2.2.2.1 else
  if j < 312 then ((bU u ((j - 264) / 24)).2.2.1 ((j - 264) % 24)).2.2.2.2.1 else
  (bU u ((j - 312) / 12)).2.2.2 ((j - 312) % 12)
def kkU (u : HU) (j : Nat) : ClassId :=
  if j < 38 then u.2.1 j else
  if j < 50 then (bU u 0).2.1 11 else
  if j < 60 then (bU u ((j - 50) / 5)).2.1 (6 + (j - 50) % 5) else
  if j < 62 then (bU u (j - 60)).2.1 11 else
  if j < 64 then (bU u (j - 62)).2.1 12 else
  if j < 66 then (bU u (j - 64)).2.1 13 else
  if j < 68 then (bU u (j - 66)).2.1 14 else
  if j < 70 then (bU u (j - 68)).2.1 15 else
  if j < 72 then (bU u (j - 70)).2.1 16 else
  if j < 120 then (bU u 0).2.1 11 else
  if j < 168 then ((bU u ((j - 120) / 24)).2.2.1 ((j - 120) % 24)).2.2.2.2.2.1 else
  if j < 216 then ((bU u ((j - 168) / 24)).2.2.1 ((j - 168) % 24)).2.2.2.2.2.2.1 else
  if j < 264 then ((bU u ((j - 216) / 24)).2.2.1 ((j - 216) % 24)).2.2.2.2.2.2.2.1 else
  if j < 312 then ((bU u ((j - 264) / 24)).2.2.1 ((j - 264) % 24)).2.2.2.2.2.2.2.2 else
  (bU u 0).2.1 11
def V0 (u : HU) : Vf := fun c k => match c with
  | 0 => if k = 7 then 1 else 0
  | 1 => if k = 1 then -1 else if k = 2 then -1 else 0
  | 2 => if k = 6 then -1 else 0
  | 3 => if k = 12 then 1 else 0
  | 23 => upd (fun _ => 0) 0 1 k
  | 25 => u.2.2.1 k
  | 44 => if k = 0 then 60900 else 0
  | _ => 0
def L0 (u : HU) : Lf := fun c k => match c with
  | 11 => u.2.2.2.1 k
  | _ => 0
def Z0 (u : HU) : XZ := (fun _ => 0, 0, u.1 28, u.1 29, u.2.1 28, u.2.1 29, 512)
def hs38 (u : HU) : va_W := (u.1 0, .inr (11, [.ref (u.1 6), .ref (u.1 1), .ref (u.1 2), .ref (u.1 3), .ref (u.1 4), .ref (u.1 5), .ref (u.1 38), .ref (u.1 39), .int 0, .int 0])) :: (u.1 1, .inr (1, [.ref (u.1 6), .null, .null, .int 0, .int 0, .long 0, .int 0, .int 0, .int 0])) :: (u.1 2, .inr (2, [.ref (u.1 12), .ref (u.1 13), .ref (u.1 14), .ref (u.1 15), .ref (u.1 16), .ref (u.1 17), .null, .int 0])) :: (u.1 3, .inr (8, [.ref (u.1 18), .ref (u.1 19), .ref (u.1 20), .ref (u.1 21), .ref (u.1 22), .ref (u.1 23), .ref (u.1 24), .ref (u.1 25), .ref (u.1 26), .ref (u.1 27), .ref (u.1 28), .ref (u.1 29), .int 1, .int 0, .int 0, .int 0])) :: (u.1 4, .inr (7, [.ref (u.1 30), .ref (u.1 31), .ref (u.1 32), .ref (u.1 33), .ref (u.1 34), .int 0, .int 0, .int 0, .int 0, .int 0])) :: (u.1 5, .inr (5, [.ref (u.1 3), .ref (u.1 4), .ref (u.1 35), .ref (u.1 36), .ref (u.1 37), .ref (u.1 38), .int 0, .int 0, .int 0, .int 0, .int 0, .int 0, .int 0, .int 0, .int 0])) :: (u.1 6, .inr (9, [.ref (u.1 7), .ref (u.1 8), .ref (u.1 9), .ref (u.1 10), .ref (u.1 11), .int 0, .int 0, .int 0, .int 0, .int 0, .int 0, .long 0])) :: (u.1 7, .inl (u.2.1 7, 4000, .inl (fun _ => 0))) :: (u.1 8, .inl (u.2.1 8, 28, .inr (.inl u.2.2.2.1))) :: (u.1 9, .inl (u.2.1 9, 4001, .inl (fun _ => 0))) :: (u.1 10, .inl (u.2.1 10, 4001, .inl (fun _ => 0))) :: (u.1 11, .inl (u.2.1 11, 4001, .inr (.inl (fun _ => 0)))) :: (u.1 12, .inl (u.2.1 12, 100, .inl (fun _ => 0))) :: (u.1 13, .inl (u.2.1 13, 100, .inl (fun _ => 0))) :: (u.1 14, .inl (u.2.1 14, 100, .inl (fun _ => 0))) :: (u.1 15, .inl (u.2.1 15, 2400, .inl (fun _ => 0))) :: (u.1 16, .inl (u.2.1 16, 24, .inl (fun _ => 0))) :: (u.1 17, .inl (u.2.1 17, 24, .inl (fun _ => 0))) :: (u.1 18, .inl (u.2.1 18, 40, .inl (fun _ => 0))) :: (u.1 19, .inl (u.2.1 19, 40, .inl (fun _ => 0))) :: (u.1 20, .inl (u.2.1 20, 40, .inl (upd (fun _ => 0) 0 1))) :: (u.1 21, .inl (u.2.1 21, 40, .inl (fun _ => 0))) :: (u.1 22, .inl (u.2.1 22, 960, .inl u.2.2.1)) :: (u.1 23, .inl (u.2.1 23, 300, .inl (fun _ => 0))) :: (u.1 24, .inl (u.2.1 24, 300, .inl (fun _ => 0))) :: (u.1 25, .inl (u.2.1 25, 300, .inl (fun _ => 0))) :: (u.1 26, .inl (u.2.1 26, 300, .inl (fun _ => 0))) :: (u.1 27, .inl (u.2.1 27, 2400, .inl (fun _ => 0))) :: (u.1 28, .inl (u.2.1 28, 512, .inl (fun _ => 0))) :: (u.1 29, .inl (u.2.1 29, 512, .inl (fun _ => 0))) :: (u.1 30, .inl (u.2.1 30, 100, .inl (fun _ => 0))) :: (u.1 31, .inl (u.2.1 31, 100, .inl (fun _ => 0))) :: (u.1 32, .inl (u.2.1 32, 100, .inl (fun _ => 0))) :: (u.1 33, .inl (u.2.1 33, 300, .inl (fun _ => 0))) :: (u.1 34, .inl (u.2.1 34, 300, .inl (fun _ => 0))) :: (u.1 35, .inl (u.2.1 35, 400, .inr (.inr (.inr (.inr (fun _ => none)))))) :: (u.1 36, .inl (u.2.1 36, 2048, .inl (fun _ => 0))) :: (u.1 37, .inl (u.2.1 37, 300, .inl (fun _ => 0))) :: []
def ht31 (u : HU) : List (ClassId × FieldType) := (u.2.1 7, .byte) :: (u.2.1 8, .long) :: (u.2.1 9, .int) :: (u.2.1 10, .int) :: (u.2.1 11, .long) :: (u.2.1 12, .int) :: (u.2.1 13, .int) :: (u.2.1 14, .int) :: (u.2.1 15, .int) :: (u.2.1 16, .int) :: (u.2.1 17, .int) :: (u.2.1 18, .int) :: (u.2.1 19, .int) :: (u.2.1 20, .boolean) :: (u.2.1 21, .int) :: (u.2.1 22, .int) :: (u.2.1 23, .int) :: (u.2.1 24, .int) :: (u.2.1 25, .int) :: (u.2.1 26, .int) :: (u.2.1 27, .int) :: (u.2.1 28, .int) :: (u.2.1 29, .int) :: (u.2.1 30, .int) :: (u.2.1 31, .int) :: (u.2.1 32, .int) :: (u.2.1 33, .int) :: (u.2.1 34, .int) :: (u.2.1 35, .object RX4) :: (u.2.1 36, .int) :: (u.2.1 37, .int) :: []
def hww (u : HU) : va_W := hs38 u ++ (bkw (u.1 39) (bU u 1) ++ bkw (u.1 38) (bU u 0))
def hwt (u : HU) : List (ClassId × FieldType) := ht31 u ++ (bkt (bU u 1) ++ bkt (bU u 0))
def tauB (j : Nat) : Nat :=
  if j < 2 then 38 + (if j = 1 then 0 else 149) + (0) else
  if j < 12 then 38 + (if (j - 2) / 5 = 1 then 0 else 149) + ((1 + (j - 2) % 5)) else
  if j < 22 then 38 + (if (j - 12) / 5 = 1 then 0 else 149) + (6 + (j - 12) % 5) else
  if j < 24 then 38 + (if j - 22 = 1 then 0 else 149) + (11) else
  if j < 26 then 38 + (if j - 24 = 1 then 0 else 149) + (12) else
  if j < 28 then 38 + (if j - 26 = 1 then 0 else 149) + (13) else
  if j < 30 then 38 + (if j - 28 = 1 then 0 else 149) + (14) else
  if j < 32 then 38 + (if j - 30 = 1 then 0 else 149) + (15) else
  if j < 34 then 38 + (if j - 32 = 1 then 0 else 149) + (16) else
  if j < 82 then 38 + (if (j - 34) / 24 = 1 then 0 else 149) + (29 + (5 * (23 - (j - 34) % 24) + 0)) else
  if j < 130 then 38 + (if (j - 82) / 24 = 1 then 0 else 149) + (29 + (5 * (23 - (j - 82) % 24) + 1)) else
  if j < 178 then 38 + (if (j - 130) / 24 = 1 then 0 else 149) + (29 + (5 * (23 - (j - 130) % 24) + 2)) else
  if j < 226 then 38 + (if (j - 178) / 24 = 1 then 0 else 149) + (29 + (5 * (23 - (j - 178) % 24) + 3)) else
  if j < 274 then 38 + (if (j - 226) / 24 = 1 then 0 else 149) + (29 + (5 * (23 - (j - 226) % 24) + 4)) else
  38 + (if (j - 274) / 12 = 1 then 0 else 149) + (17 + (11 - (j - 274) % 12))
def tau (i : Nat) : Nat := if i < 38 then i else tauB (i - 38)
def tauI : List Nat := [0, 1, 2, 3, 4, 5, 6, 7, 8, 9, 10, 11, 12, 13, 14, 15, 16, 17, 18, 19, 20, 21, 22, 23, 24, 25, 26, 27, 28, 29, 30, 31, 32, 33, 34, 35, 36, 37, 39, 45, 46, 47] ++ ([48, 49, 55, 56, 57, 58, 59, 61, 63, 65, 67, 69, 71, 335, 334, 333, 332, 331, 330, 329, 328, 327, 326, 325, 324, 119, 167, 215, 263, 311, 118, 166, 214, 262, 310, 117, 165, 213, 261, 309, 116, 164] ++ ([212, 260, 308, 115, 163, 211, 259, 307, 114, 162, 210, 258, 306, 113, 161, 209, 257, 305, 112, 160, 208, 256, 304, 111, 159, 207, 255, 303, 110, 158, 206, 254, 302, 109, 157, 205, 253, 301, 108, 156, 204, 252] ++ ([300, 107, 155, 203, 251, 299, 106, 154, 202, 250, 298, 105, 153, 201, 249, 297, 104, 152, 200, 248, 296, 103, 151, 199, 247, 295, 102, 150, 198, 246, 294, 101, 149, 197, 245, 293, 100, 148, 196, 244, 292, 99] ++ ([147, 195, 243, 291, 98, 146, 194, 242, 290, 97, 145, 193, 241, 289, 96, 144, 192, 240, 288, 38, 40, 41, 42, 43, 44, 50, 51, 52, 53, 54, 60, 62, 64, 66, 68, 70, 323, 322, 321, 320, 319, 318] ++ ([317, 316, 315, 314, 313, 312, 95, 143, 191, 239, 287, 94, 142, 190, 238, 286, 93, 141, 189, 237, 285, 92, 140, 188, 236, 284, 91, 139, 187, 235, 283, 90, 138, 186, 234, 282, 89, 137, 185, 233, 281, 88] ++ ([136, 184, 232, 280, 87, 135, 183, 231, 279, 86, 134, 182, 230, 278, 85, 133, 181, 229, 277, 84, 132, 180, 228, 276, 83, 131, 179, 227, 275, 82, 130, 178, 226, 274, 81, 129, 177, 225, 273, 80, 128, 176] ++ ([224, 272, 79, 127, 175, 223, 271, 78, 126, 174, 222, 270, 77, 125, 173, 221, 269, 76, 124, 172, 220, 268, 75, 123, 171, 219, 267, 74, 122, 170, 218, 266, 73, 121, 169, 217, 265, 72, 120, 168, 216, 264])))))))
set_option maxRecDepth 100000 in
theorem tau_inv : ∀ i, i < 336 → tauI.getD (tau i) 0 = i := by decide +kernel
theorem bkw_len {h : Nat} {U : BU} : (bkw h U).length = 149 := by
  unfold bkw
  rw [List.length_append, List.length_append, RC_len (m := 1) (fun _ => rfl), RC_len (m := 5) (fun _ => rfl)]
  rfl
theorem hs_len {u : HU} : (hs38 u).length = 38 := rfl
theorem bk_get {u : HU} {b t : Nat} (hb : b < 2) (ht : t < 149) : (hww u)[38 + (if b = 1 then 0 else 149) + t]? = (bkw (u.1 (38 + b)) (bU u b))[t]? := by
  unfold hww
  rw [List.getElem?_append_right (by rw [hs_len]; omega), hs_len]
  rcases (show b = 0 ∨ b = 1 from by (first | exact om_1a596a60e923 hb | omega)) with rfl | rfl
  · rw [if_neg (by decide), show 38 + 149 + t - 38 = 149 + t from by omega, List.getElem?_append_right (by rw [bkw_len]; omega), bkw_len, Nat.add_sub_cancel_left]
  · rw [if_pos rfl, show 38 + 0 + t - 38 = t from by omega, List.getElem?_append_left (by rw [bkw_len]; exact ht)]
theorem be_len {h : Nat} {U : BU} : (be17 h U).length = 17 := rfl
theorem bk_c {h : Nat} {U : BU} {i r : Nat} (hi : i < 24) (hr : r < 5) : (bkw h U)[29 + (5 * (23 - i) + r)]? = (cblk (U.2.2.1 i))[r]? := by
  unfold bkw
  have l1 : (RC wblk U.2.2.2 12).length = 12 := by rw [RC_len (m := 1) (fun _ => rfl)]
  rw [List.getElem?_append_right (by rw [be_len]; omega), be_len, show 29 + (5 * (23 - i) + r) - 17 = 12 + (5 * (23 - i) + r) from by omega, List.getElem?_append_right (by rw [l1]; omega), l1, Nat.add_sub_cancel_left]
  have g := RC_get (blk := cblk) (d := U.2.2.1) (m := 5) (fun _ => rfl) 24 i r [] hi hr
  rw [List.append_nil] at g
  exact g
theorem bk_w {h : Nat} {U : BU} {i : Nat} (hi : i < 12) : (bkw h U)[17 + (11 - i)]? = (wblk (U.2.2.2 i))[0]? := by
  unfold bkw
  rw [List.getElem?_append_right (by rw [be_len]; omega), be_len, Nat.add_sub_cancel_left]
  have g := RC_get (blk := wblk) (d := U.2.2.2) (m := 1) (fun _ => rfl) 12 i 0 (RC cblk U.2.2.1 24) hi (by decide)
  rw [show 1 * (12 - 1 - i) + 0 = 11 - i from by omega] at g
  exact g
theorem zL44 {u : HU} {n : Nat} : (fun q => if q < 24 then L0 u 44 (24 * n + q) else 0) = (fun _ => 0) := funext fun q => by split <;> rfl
theorem zV45 {u : HU} {n : Nat} : (fun q => if q < 24 then V0 u 45 (24 * n + q) else 0) = (fun _ => 0) := funext fun q => by split <;> rfl
theorem zV46 {u : HU} {n : Nat} : (fun q => if q < 12 then V0 u 46 (12 * n + q) else 0) = (fun _ => 0) := funext fun q => by split <;> rfl
theorem zV47 {u : HU} {n : Nat} : (fun q => if q < 12 then V0 u 47 (12 * n + q) else 0) = (fun _ => 0) := funext fun q => by split <;> rfl
theorem zV48 {u : HU} {n : Nat} : (fun q => if q < 8200 then V0 u 48 (8200 * n + q) else 0) = (fun _ => 0) := funext fun q => by split <;> rfl
theorem zV58 {u : HU} {n : Nat} : (fun q => if q < 8 then V0 u 58 (8 * n + q) else 0) = (fun _ => 0) := funext fun q => by split <;> rfl
theorem zV59 {u : HU} {n : Nat} : (fun q => if q < 8 then V0 u 59 (8 * n + q) else 0) = (fun _ => 0) := funext fun q => by split <;> rfl
theorem zV60 {u : HU} {n : Nat} : (fun q => if q < 8 then V0 u 60 (8 * n + q) else 0) = (fun _ => 0) := funext fun q => by split <;> rfl
theorem zV61 {u : HU} {n : Nat} : (fun q => if q < 20 then V0 u 61 (20 * n + q) else 0) = (fun _ => 0) := funext fun q => by split <;> rfl
theorem adU_72 {u : HU} {c : Nat} (h : c < 48) : adU u (72 + c) = ((bU u (c / 24)).2.2.1 (c % 24)).1 := by
  unfold adU
  rw [if_neg (by omega), if_neg (by omega), if_neg (by omega), if_neg (by omega), if_neg (by omega), if_neg (by omega), if_neg (by omega), if_neg (by omega), if_neg (by omega), if_pos (by omega), Nat.add_sub_cancel_left]
theorem adU_120 {u : HU} {c : Nat} (h : c < 48) : adU u (120 + c) = ((bU u (c / 24)).2.2.1 (c % 24)).2.1 := by
  unfold adU
  rw [if_neg (by omega), if_neg (by omega), if_neg (by omega), if_neg (by omega), if_neg (by omega), if_neg (by omega), if_neg (by omega), if_neg (by omega), if_neg (by omega), if_neg (by omega), if_pos (by omega), Nat.add_sub_cancel_left]
theorem adU_168 {u : HU} {c : Nat} (h : c < 48) : adU u (168 + c) = ((bU u (c / 24)).2.2.1 (c % 24)).2.2.1 := by
  unfold adU
  rw [if_neg (by omega), if_neg (by omega), if_neg (by omega), if_neg (by omega), if_neg (by omega), if_neg (by omega), if_neg (by omega), if_neg (by omega), if_neg (by omega), if_neg (by omega), if_neg (by omega), if_pos (by omega), Nat.add_sub_cancel_left]
theorem adU_216 {u : HU} {c : Nat} (h : c < 48) : adU u (216 + c) = ((bU u (c / 24)).2.2.1 (c % 24)).2.2.2.1 := by
  unfold adU
  rw [if_neg (by omega), if_neg (by omega), if_neg (by omega), if_neg (by omega), if_neg (by omega), if_neg (by omega), if_neg (by omega), if_neg (by omega), if_neg (by omega), if_neg (by omega), if_neg (by omega), if_neg (by omega), if_pos (by omega), Nat.add_sub_cancel_left]
theorem adU_264 {u : HU} {c : Nat} (h : c < 48) : adU u (264 + c) = ((bU u (c / 24)).2.2.1 (c % 24)).2.2.2.2.1 := by
  unfold adU
  rw [if_neg (by omega), if_neg (by omega), if_neg (by omega), if_neg (by omega), if_neg (by omega), if_neg (by omega), if_neg (by omega), if_neg (by omega), if_neg (by omega), if_neg (by omega), if_neg (by omega), if_neg (by omega), if_neg (by omega), if_pos (by omega), Nat.add_sub_cancel_left]
theorem adU_312 {u : HU} {c : Nat} : adU u (312 + c) = (bU u (c / 12)).2.2.2 (c % 12) := by
  unfold adU
  rw [if_neg (by omega), if_neg (by omega), if_neg (by omega), if_neg (by omega), if_neg (by omega), if_neg (by omega), if_neg (by omega), if_neg (by omega), if_neg (by omega), if_neg (by omega), if_neg (by omega), if_neg (by omega), if_neg (by omega), if_neg (by omega), Nat.add_sub_cancel_left]
theorem kkU_120 {u : HU} {c : Nat} (h : c < 48) : kkU u (120 + c) = ((bU u (c / 24)).2.2.1 (c % 24)).2.2.2.2.2.1 := by
  unfold kkU
  rw [if_neg (by omega), if_neg (by omega), if_neg (by omega), if_neg (by omega), if_neg (by omega), if_neg (by omega), if_neg (by omega), if_neg (by omega), if_neg (by omega), if_neg (by omega), if_pos (by omega), Nat.add_sub_cancel_left]
theorem kkU_168 {u : HU} {c : Nat} (h : c < 48) : kkU u (168 + c) = ((bU u (c / 24)).2.2.1 (c % 24)).2.2.2.2.2.2.1 := by
  unfold kkU
  rw [if_neg (by omega), if_neg (by omega), if_neg (by omega), if_neg (by omega), if_neg (by omega), if_neg (by omega), if_neg (by omega), if_neg (by omega), if_neg (by omega), if_neg (by omega), if_neg (by omega), if_pos (by omega), Nat.add_sub_cancel_left]
theorem kkU_216 {u : HU} {c : Nat} (h : c < 48) : kkU u (216 + c) = ((bU u (c / 24)).2.2.1 (c % 24)).2.2.2.2.2.2.2.1 := by
  unfold kkU
  rw [if_neg (by omega), if_neg (by omega), if_neg (by omega), if_neg (by omega), if_neg (by omega), if_neg (by omega), if_neg (by omega), if_neg (by omega), if_neg (by omega), if_neg (by omega), if_neg (by omega), if_neg (by omega), if_pos (by omega), Nat.add_sub_cancel_left]
theorem kkU_264 {u : HU} {c : Nat} (h : c < 48) : kkU u (264 + c) = ((bU u (c / 24)).2.2.1 (c % 24)).2.2.2.2.2.2.2.2 := by
  unfold kkU
  rw [if_neg (by omega), if_neg (by omega), if_neg (by omega), if_neg (by omega), if_neg (by omega), if_neg (by omega), if_neg (by omega), if_neg (by omega), if_neg (by omega), if_neg (by omega), if_neg (by omega), if_neg (by omega), if_neg (by omega), if_pos (by omega), Nat.add_sub_cancel_left]
theorem tb_Book {u : HU} {n : Nat} (h : n < 2) : (hww u)[38 + (if n = 1 then 0 else 149) + (0)]? = some (xeBook (adU u) (kkU u) (V0 u) (L0 u) (Z0 u) n) := by
  rw [bk_get (b := n) (t := (0)) (by omega) (by omega)]
  rcases (show n = 0 ∨ n = 1 from by (first | exact om_1a596a60e923 h | omega)) with rfl | rfl
  · rfl
  · rfl
theorem tb_Names {u : HU} {n : Nat} (h : n < 10) : (hww u)[38 + (if n / 5 = 1 then 0 else 149) + (1 + n % 5)]? = some (xeNames (adU u) (kkU u) (V0 u) (L0 u) (Z0 u) n) := by
  rw [bk_get (b := n / 5) (t := (1 + n % 5)) (by omega) (by omega)]
  rcases (show n = 0 ∨ n = 1 ∨ n = 2 ∨ n = 3 ∨ n = 4 ∨ n = 5 ∨ n = 6 ∨ n = 7 ∨ n = 8 ∨ n = 9 from by (first | exact om_3953bc6f5ad7 h | omega)) with rfl | rfl | rfl | rfl | rfl | rfl | rfl | rfl | rfl | rfl
  · rfl
  · rfl
  · rfl
  · rfl
  · rfl
  · rfl
  · rfl
  · rfl
  · rfl
  · rfl
theorem tb_words {u : HU} {n : Nat} (h : n < 10) : (hww u)[38 + (if n / 5 = 1 then 0 else 149) + (6 + n % 5)]? = some (xewords (adU u) (kkU u) (V0 u) (L0 u) (Z0 u) n) := by
  rw [bk_get (b := n / 5) (t := (6 + n % 5)) (by omega) (by omega)]
  unfold xewords
  rw [zL44]
  rcases (show n = 0 ∨ n = 1 ∨ n = 2 ∨ n = 3 ∨ n = 4 ∨ n = 5 ∨ n = 6 ∨ n = 7 ∨ n = 8 ∨ n = 9 from by (first | exact om_3953bc6f5ad7 h | omega)) with rfl | rfl | rfl | rfl | rfl | rfl | rfl | rfl | rfl | rfl
  · rfl
  · rfl
  · rfl
  · rfl
  · rfl
  · rfl
  · rfl
  · rfl
  · rfl
  · rfl
theorem tb_typeUnder {u : HU} {n : Nat} (h : n < 2) : (hww u)[38 + (if n = 1 then 0 else 149) + (11)]? = some (xetypeUnder (adU u) (kkU u) (V0 u) (L0 u) (Z0 u) n) := by
  rw [bk_get (b := n) (t := (11)) (by omega) (by omega)]
  unfold xetypeUnder
  rw [zV45]
  rcases (show n = 0 ∨ n = 1 from by (first | exact om_1a596a60e923 h | omega)) with rfl | rfl
  · rfl
  · rfl
theorem tb_settingValues {u : HU} {n : Nat} (h : n < 2) : (hww u)[38 + (if n = 1 then 0 else 149) + (12)]? = some (xesettingValues (adU u) (kkU u) (V0 u) (L0 u) (Z0 u) n) := by
  rw [bk_get (b := n) (t := (12)) (by omega) (by omega)]
  unfold xesettingValues
  rw [zV46]
  rcases (show n = 0 ∨ n = 1 from by (first | exact om_1a596a60e923 h | omega)) with rfl | rfl
  · rfl
  · rfl
theorem tb_wrapOrder {u : HU} {n : Nat} (h : n < 2) : (hww u)[38 + (if n = 1 then 0 else 149) + (15)]? = some (xewrapOrder (adU u) (kkU u) (V0 u) (L0 u) (Z0 u) n) := by
  rw [bk_get (b := n) (t := (15)) (by omega) (by omega)]
  unfold xewrapOrder
  rw [zV47]
  rcases (show n = 0 ∨ n = 1 from by (first | exact om_1a596a60e923 h | omega)) with rfl | rfl
  · rfl
  · rfl
theorem tb_code {u : HU} {n : Nat} (h : n < 2) : (hww u)[38 + (if n = 1 then 0 else 149) + (16)]? = some (xecode (adU u) (kkU u) (V0 u) (L0 u) (Z0 u) n) := by
  rw [bk_get (b := n) (t := (16)) (by omega) (by omega)]
  unfold xecode
  rw [zV48]
  rcases (show n = 0 ∨ n = 1 from by (first | exact om_1a596a60e923 h | omega)) with rfl | rfl
  · rfl
  · rfl
theorem cmp_f {u : HU} {n : Nat} (h : n < 2) : (fun q => if q < 24 then some (adU u (72 + (24 * n + q))) else none) = (fun q => if q < 24 then some ((bU u n).2.2.1 q).1 else none) := by
  funext q
  by_cases hq : q < 24
  · rw [if_pos hq, if_pos hq, adU_72 (by omega), show (24 * n + q) / 24 = n from by omega, show (24 * n + q) % 24 = q from by omega]
  · rw [if_neg hq, if_neg hq]
theorem wrp_f {u : HU} {n : Nat} : (fun q => if q < 12 then some (adU u (312 + (12 * n + q))) else none) = (fun q => if q < 12 then some ((bU u n).2.2.2 q) else none) := by
  funext q
  by_cases hq : q < 12
  · rw [if_pos hq, if_pos hq, adU_312, show (12 * n + q) / 12 = n from by omega, show (12 * n + q) % 12 = q from by omega]
  · rw [if_neg hq, if_neg hq]
theorem tb_comps {u : HU} {n : Nat} (h : n < 2) : (hww u)[38 + (if n = 1 then 0 else 149) + (13)]? = some (xecomps (adU u) (kkU u) (V0 u) (L0 u) (Z0 u) n) := by
  rw [bk_get (b := n) (t := (13)) (by omega) (by omega)]
  unfold xecomps
  rw [cmp_f h]
  rcases (show n = 0 ∨ n = 1 from by (first | exact om_1a596a60e923 h | omega)) with rfl | rfl
  · rfl
  · rfl
theorem tb_wrapsA {u : HU} {n : Nat} (h : n < 2) : (hww u)[38 + (if n = 1 then 0 else 149) + (14)]? = some (xewrapsA (adU u) (kkU u) (V0 u) (L0 u) (Z0 u) n) := by
  rw [bk_get (b := n) (t := (14)) (by omega) (by omega)]
  unfold xewrapsA
  rw [wrp_f]
  rcases (show n = 0 ∨ n = 1 from by (first | exact om_1a596a60e923 h | omega)) with rfl | rfl
  · rfl
  · rfl
theorem tb_Comp {u : HU} {n : Nat} (h : n < 48) : (hww u)[38 + (if n / 24 = 1 then 0 else 149) + (29 + (5 * (23 - n % 24) + 0))]? = some (xeComp (adU u) (kkU u) (V0 u) (L0 u) (Z0 u) n) := by
  rw [bk_get (b := n / 24) (t := 29 + (5 * (23 - n % 24) + 0)) (by omega) (by omega), bk_c (by omega) (by decide)]
  unfold xeComp xfComp
  rw [adU_72 h, adU_120 h, adU_168 h, adU_216 h, adU_264 h]
  rfl
theorem tb_needTypes {u : HU} {n : Nat} (h : n < 48) : (hww u)[38 + (if n / 24 = 1 then 0 else 149) + (29 + (5 * (23 - n % 24) + 1))]? = some (xeneedTypes (adU u) (kkU u) (V0 u) (L0 u) (Z0 u) n) := by
  rw [bk_get (b := n / 24) (t := 29 + (5 * (23 - n % 24) + 1)) (by omega) (by omega), bk_c (by omega) (by decide)]
  unfold xeneedTypes
  rw [adU_120 h, kkU_120 h, zV58]
  rfl
theorem tb_needWords {u : HU} {n : Nat} (h : n < 48) : (hww u)[38 + (if n / 24 = 1 then 0 else 149) + (29 + (5 * (23 - n % 24) + 2))]? = some (xeneedWords (adU u) (kkU u) (V0 u) (L0 u) (Z0 u) n) := by
  rw [bk_get (b := n / 24) (t := 29 + (5 * (23 - n % 24) + 2)) (by omega) (by omega), bk_c (by omega) (by decide)]
  unfold xeneedWords
  rw [adU_168 h, kkU_168 h, zV59]
  rfl
theorem tb_needKinds {u : HU} {n : Nat} (h : n < 48) : (hww u)[38 + (if n / 24 = 1 then 0 else 149) + (29 + (5 * (23 - n % 24) + 3))]? = some (xeneedKinds (adU u) (kkU u) (V0 u) (L0 u) (Z0 u) n) := by
  rw [bk_get (b := n / 24) (t := 29 + (5 * (23 - n % 24) + 3)) (by omega) (by omega), bk_c (by omega) (by decide)]
  unfold xeneedKinds
  rw [adU_216 h, kkU_216 h, zV60]
  rfl
theorem tb_methodStarts {u : HU} {n : Nat} (h : n < 48) : (hww u)[38 + (if n / 24 = 1 then 0 else 149) + (29 + (5 * (23 - n % 24) + 4))]? = some (xemethodStarts (adU u) (kkU u) (V0 u) (L0 u) (Z0 u) n) := by
  rw [bk_get (b := n / 24) (t := 29 + (5 * (23 - n % 24) + 4)) (by omega) (by omega), bk_c (by omega) (by decide)]
  unfold xemethodStarts
  rw [adU_264 h, kkU_264 h, zV61]
  rfl
theorem tb_Wrap {u : HU} {n : Nat} (h : n < 24) : (hww u)[38 + (if n / 12 = 1 then 0 else 149) + (17 + (11 - n % 12))]? = some (xeWrap (adU u) (kkU u) (V0 u) (L0 u) (Z0 u) n) := by
  rw [bk_get (b := n / 12) (t := 17 + (11 - n % 12)) (by omega) (by omega), bk_w (by omega)]
  unfold xeWrap xfWrap
  rw [adU_312]
  rfl
theorem xb_tau {u : HU} {j : Nat} (hj : j < 298) : (hww u)[tauB j]? = some (xb (adU u) (kkU u) (V0 u) (L0 u) (Z0 u) j) := by
  unfold tauB xb
  by_cases h0 : j < 2
  · rw [if_pos h0, if_pos h0]
    exact tb_Book (n := j) (by omega)
  rw [if_neg h0, if_neg h0]
  by_cases h1 : j < 12
  · rw [if_pos h1, if_pos h1]
    exact tb_Names (n := j - 2) (by omega)
  rw [if_neg h1, if_neg h1]
  by_cases h2 : j < 22
  · rw [if_pos h2, if_pos h2]
    exact tb_words (n := j - 12) (by omega)
  rw [if_neg h2, if_neg h2]
  by_cases h3 : j < 24
  · rw [if_pos h3, if_pos h3]
    exact tb_typeUnder (n := j - 22) (by omega)
  rw [if_neg h3, if_neg h3]
  by_cases h4 : j < 26
  · rw [if_pos h4, if_pos h4]
    exact tb_settingValues (n := j - 24) (by omega)
  rw [if_neg h4, if_neg h4]
  by_cases h5 : j < 28
  · rw [if_pos h5, if_pos h5]
    exact tb_comps (n := j - 26) (by omega)
  rw [if_neg h5, if_neg h5]
  by_cases h6 : j < 30
  · rw [if_pos h6, if_pos h6]
    exact tb_wrapsA (n := j - 28) (by omega)
  rw [if_neg h6, if_neg h6]
  by_cases h7 : j < 32
  · rw [if_pos h7, if_pos h7]
    exact tb_wrapOrder (n := j - 30) (by omega)
  rw [if_neg h7, if_neg h7]
  by_cases h8 : j < 34
  · rw [if_pos h8, if_pos h8]
    exact tb_code (n := j - 32) (by omega)
  rw [if_neg h8, if_neg h8]
  by_cases h9 : j < 82
  · rw [if_pos h9, if_pos h9]
    exact tb_Comp (n := j - 34) (by omega)
  rw [if_neg h9, if_neg h9]
  by_cases h10 : j < 130
  · rw [if_pos h10, if_pos h10]
    exact tb_needTypes (n := j - 82) (by omega)
  rw [if_neg h10, if_neg h10]
  by_cases h11 : j < 178
  · rw [if_pos h11, if_pos h11]
    exact tb_needWords (n := j - 130) (by omega)
  rw [if_neg h11, if_neg h11]
  by_cases h12 : j < 226
  · rw [if_pos h12, if_pos h12]
    exact tb_needKinds (n := j - 178) (by omega)
  rw [if_neg h12, if_neg h12]
  by_cases h13 : j < 274
  · rw [if_pos h13, if_pos h13]
    exact tb_methodStarts (n := j - 226) (by omega)
  rw [if_neg h13, if_neg h13]
  rw [if_pos hj]
  exact tb_Wrap (n := j - 274) (by omega)
theorem hs_eq {u : HU} : xs (adU u) (kkU u) (V0 u) (L0 u) (Z0 u) = hs38 u := by
  unfold xs
  rw [show (fun q => if q < (Z0 u).nf then some ((Z0 u).fa q) else none) = (fun _ => none) from funext fun q => if_neg (Nat.not_lt_zero q)]
  rfl
theorem xw_tau {u : HU} {i : Nat} (hi : i < 336) : (xw (adU u) (kkU u) (V0 u) (L0 u) (Z0 u))[i]? = (hww u)[tau i]? := by
  unfold tau
  by_cases h : i < 38
  · rw [if_pos h]
    unfold xw hww
    rw [List.getElem?_append_left (by rw [hs_eq, hs_len]; exact h), List.getElem?_append_left (by rw [hs_len]; exact h), hs_eq]
  · rw [if_neg h, xb_tau (by omega)]
    have e := xw_b (ad := adU u) (kk := kkU u) (V := V0 u) (L := L0 u) (Z := Z0 u) (j := i - 38) (by show i - 38 < 298 + 0; omega)
    rw [show 38 + (i - 38) = i from by omega] at e
    exact e
theorem hw_P {u : HU} {D : va_G} {H : Heap} (h : va_P D vwCl (hww u) H) : va_P D vwCl (xw (adU u) (kkU u) (V0 u) (L0 u) (Z0 u)) H := by
  intro k q hq
  have l := (List.getElem?_eq_some_iff.mp hq).1
  rw [xw_len] at l
  rw [xw_tau (by have : (Z0 u).nf = 0 := rfl; omega)] at hq
  exact h _ q hq
theorem hw_D {u : HU} {A : Nat → Prop} (h : va_D A (hww u)) : va_D A (xw (adU u) (kkU u) (V0 u) (L0 u) (Z0 u)) := by
  have lt : ∀ (k : Nat) (q : Nat × va_E), (xw (adU u) (kkU u) (V0 u) (L0 u) (Z0 u))[k]? = some q → k < 336 := fun k q hq => by
    have l := (List.getElem?_eq_some_iff.mp hq).1
    rw [xw_len] at l
    have : (Z0 u).nf = 0 := rfl
    omega
  refine ⟨fun i j p q h1 h2 e => ?_, fun k q hq => ?_⟩
  · have li := lt i p h1
    have lj := lt j q h2
    rw [xw_tau li] at h1
    rw [xw_tau lj] at h2
    have t := h.1 _ _ p q h1 h2 e
    rw [← tau_inv i li, t, tau_inv j lj]
  · rw [xw_tau (lt k q hq)] at hq
    exact h.2 _ q hq
theorem RTy_mem {β : Type} {t : β → List (ClassId × FieldType)} {d : Nat → β} {x : ClassId × FieldType} : ∀ n i, i < n → x ∈ t (d i) → x ∈ RTy t d n
  | 0, i, h, _ => absurd h (Nat.not_lt_zero _)
  | n + 1, i, h, hx => by
    show x ∈ t (d n) ++ RTy t d n
    by_cases e : i = n
    · rw [e] at hx
      exact List.mem_append_left _ hx
    · exact List.mem_append_right _ (RTy_mem n i (by omega) hx)
theorem hwt_b {u : HU} {b : Nat} {x : ClassId × FieldType} (hb : b < 2) (h : x ∈ bkt (bU u b)) : x ∈ hwt u := by
  unfold hwt
  refine List.mem_append_right _ ?_
  rcases (show b = 0 ∨ b = 1 from by (first | exact om_1a596a60e923 hb | omega)) with rfl | rfl
  · exact List.mem_append_right _ h
  · exact List.mem_append_left _ h
theorem hwt_e {u : HU} {b : Nat} {x : ClassId × FieldType} (hb : b < 2) (h : x ∈ bt11 (bU u b)) : x ∈ hwt u := hwt_b hb (List.mem_append_left _ h)
theorem hwt_c {u : HU} {c : Nat} {x : ClassId × FieldType} (hc : c < 48) (h : x ∈ cty ((bU u (c / 24)).2.2.1 (c % 24))) : x ∈ hwt u := hwt_b (b := c / 24) (by omega) (List.mem_append_right _ (RTy_mem 24 (c % 24) (by omega) h))
def tyJ (j : Nat) : FieldType := if 12 ≤ j ∧ j < 22 then FieldType.long else if 26 ≤ j ∧ j < 28 then .object RX3 else if 28 ≤ j ∧ j < 30 then .object RX10 else .int
theorem dfl {u : HU} : ((bU u 0).2.1 11, FieldType.int) ∈ hwt u := hwt_e (b := 0) (by decide) (List.mem_of_getElem? (i := 5) rfl)
theorem tyj_in {u : HU} {j : Nat} (hj : j < 298) : (kkU u (38 + j), tyJ j) ∈ hwt u := by
  by_cases h1 : j < 12
  · rw [show kkU u (38 + j) = (bU u 0).2.1 11 from by unfold kkU; rw [if_neg (by omega), if_pos (by omega)], show tyJ j = .int from by unfold tyJ; rw [if_neg (by omega), if_neg (by omega), if_neg (by omega)]]
    exact dfl
  by_cases h2 : j < 34
  · rcases (show j = 12 ∨ j = 13 ∨ j = 14 ∨ j = 15 ∨ j = 16 ∨ j = 17 ∨ j = 18 ∨ j = 19 ∨ j = 20 ∨ j = 21 ∨ j = 22 ∨ j = 23 ∨ j = 24 ∨ j = 25 ∨ j = 26 ∨ j = 27 ∨ j = 28 ∨ j = 29 ∨ j = 30 ∨ j = 31 ∨ j = 32 ∨ j = 33 from by omega) with rfl | rfl | rfl | rfl | rfl | rfl | rfl | rfl | rfl | rfl | rfl | rfl | rfl | rfl | rfl | rfl | rfl | rfl | rfl | rfl | rfl | rfl
    · exact hwt_e (b := 0) (by decide) (List.mem_of_getElem? (i := 0) rfl)
    · exact hwt_e (b := 0) (by decide) (List.mem_of_getElem? (i := 1) rfl)
    · exact hwt_e (b := 0) (by decide) (List.mem_of_getElem? (i := 2) rfl)
    · exact hwt_e (b := 0) (by decide) (List.mem_of_getElem? (i := 3) rfl)
    · exact hwt_e (b := 0) (by decide) (List.mem_of_getElem? (i := 4) rfl)
    · exact hwt_e (b := 1) (by decide) (List.mem_of_getElem? (i := 0) rfl)
    · exact hwt_e (b := 1) (by decide) (List.mem_of_getElem? (i := 1) rfl)
    · exact hwt_e (b := 1) (by decide) (List.mem_of_getElem? (i := 2) rfl)
    · exact hwt_e (b := 1) (by decide) (List.mem_of_getElem? (i := 3) rfl)
    · exact hwt_e (b := 1) (by decide) (List.mem_of_getElem? (i := 4) rfl)
    · exact hwt_e (b := 0) (by decide) (List.mem_of_getElem? (i := 5) rfl)
    · exact hwt_e (b := 1) (by decide) (List.mem_of_getElem? (i := 5) rfl)
    · exact hwt_e (b := 0) (by decide) (List.mem_of_getElem? (i := 6) rfl)
    · exact hwt_e (b := 1) (by decide) (List.mem_of_getElem? (i := 6) rfl)
    · exact hwt_e (b := 0) (by decide) (List.mem_of_getElem? (i := 7) rfl)
    · exact hwt_e (b := 1) (by decide) (List.mem_of_getElem? (i := 7) rfl)
    · exact hwt_e (b := 0) (by decide) (List.mem_of_getElem? (i := 8) rfl)
    · exact hwt_e (b := 1) (by decide) (List.mem_of_getElem? (i := 8) rfl)
    · exact hwt_e (b := 0) (by decide) (List.mem_of_getElem? (i := 9) rfl)
    · exact hwt_e (b := 1) (by decide) (List.mem_of_getElem? (i := 9) rfl)
    · exact hwt_e (b := 0) (by decide) (List.mem_of_getElem? (i := 10) rfl)
    · exact hwt_e (b := 1) (by decide) (List.mem_of_getElem? (i := 10) rfl)
  by_cases h3 : j < 82
  · rw [show kkU u (38 + j) = (bU u 0).2.1 11 from by unfold kkU; rw [if_neg (by omega), if_neg (by omega), if_neg (by omega), if_neg (by omega), if_neg (by omega), if_neg (by omega), if_neg (by omega), if_neg (by omega), if_neg (by omega), if_pos (by omega)], show tyJ j = .int from by unfold tyJ; rw [if_neg (by omega), if_neg (by omega), if_neg (by omega)]]
    exact dfl
  have ty : tyJ j = .int := by unfold tyJ; rw [if_neg (by omega), if_neg (by omega), if_neg (by omega)]
  rw [ty]
  by_cases g0 : j < 130
  · rw [show 38 + j = 120 + (j - 82) from by omega, kkU_120 (by omega)]
    exact hwt_c (c := j - 82) (by omega) (List.mem_of_getElem? (i := 0) rfl)
  by_cases g1 : j < 178
  · rw [show 38 + j = 168 + (j - 130) from by omega, kkU_168 (by omega)]
    exact hwt_c (c := j - 130) (by omega) (List.mem_of_getElem? (i := 1) rfl)
  by_cases g2 : j < 226
  · rw [show 38 + j = 216 + (j - 178) from by omega, kkU_216 (by omega)]
    exact hwt_c (c := j - 178) (by omega) (List.mem_of_getElem? (i := 2) rfl)
  by_cases g3 : j < 274
  · rw [show 38 + j = 264 + (j - 226) from by omega, kkU_264 (by omega)]
    exact hwt_c (c := j - 226) (by omega) (List.mem_of_getElem? (i := 3) rfl)
  rw [show kkU u (38 + j) = (bU u 0).2.1 11 from by unfold kkU; rw [if_neg (by omega), if_neg (by omega), if_neg (by omega), if_neg (by omega), if_neg (by omega), if_neg (by omega), if_neg (by omega), if_neg (by omega), if_neg (by omega), if_neg (by omega), if_neg (by omega), if_neg (by omega), if_neg (by omega), if_neg (by omega)]]
  exact dfl
theorem hw_K {u : HU} {D : va_G} {s : State} (h : va_K D vwCl (hwt u) s) : va_K D vwCl (xty (kkU u) (Z0 u)) s := by
  refine ⟨h.1, fun k q hq => ?_⟩
  have m : q ∈ hwt u := by
    have hm := List.mem_of_getElem? hq
    unfold xty at hm
    rcases List.mem_append.mp hm with a | a
    · exact List.mem_append_left _ (show q ∈ ht31 u from a)
    · obtain ⟨j, hj, rfl⟩ := List.mem_map.mp a
      exact tyj_in (List.mem_range.mp hj)
  obtain ⟨i, hi⟩ := List.mem_iff_getElem?.mp m
  exact h.2 i q hi

theorem w187 : Cond.methodLink RX11 1 objectInit ∈ GW := gw_k tk9_1 32 (by decide +kernel) rfl
theorem nfX9 : ∀ j, j < 12 → defaultValue (tyX9 j) = vp_V [.null, .null, .null, .null, .null, .int 0, .int 0, .int 0, .int 0, .int 0, .int 0, .long 0] j := by decide +kernel
theorem w190 : Cond.classLink RX11 7 "WiringHouse$Tape" ∈ GW := gw_k tk9_1 35 (by decide +kernel) rfl
theorem w191 : Cond.instantiable RX9 12 ∈ GW := gw_k tk9_1 36 (by decide +kernel) rfl
theorem w194 : Cond.code yX9_init cX9_init 4 none ∈ GW := gw_k tk9_1 39 (rfl) rfl
theorem hdS_yX9_init : yX9_init.cls ≠ "java/lang/invoke/MethodHandle" ∧ yX9_init.cls ≠ "java/lang/invoke/VarHandle" ∧ (parseMethodDescriptor yX9_init.desc).map (fun d => d.parameters.length) = some 0 := by decide +kernel
theorem w192 : Cond.methodLink RX11 9 yX9_init ∈ GW := gw_k tk9_1 37 (by decide +kernel) rfl
theorem w193 : Cond.instanceMethod yX9_init ∈ GW := gw_k tk9_1 38 (by decide +kernel) rfl
theorem nfX1 : ∀ j, j < 9 → defaultValue (tyX1 j) = vp_V [.null, .null, .null, .int 0, .int 0, .long 0, .int 0, .int 0, .int 0] j := by decide +kernel
theorem w298 : Cond.classLink RX11 16 "WiringHouse$BookReader" ∈ GW := gw_k tk9_1 143 (by decide +kernel) rfl
theorem w299 : Cond.instantiable RX1 9 ∈ GW := gw_k tk9_1 144 (by decide +kernel) rfl
theorem w302 : Cond.code yX1_init cX1_init 2 none ∈ GW := gw_k tk9_1 147 (rfl) rfl
theorem hdS_yX1_init : yX1_init.cls ≠ "java/lang/invoke/MethodHandle" ∧ yX1_init.cls ≠ "java/lang/invoke/VarHandle" ∧ (parseMethodDescriptor yX1_init.desc).map (fun d => d.parameters.length) = some 1 := by decide +kernel
theorem w300 : Cond.methodLink RX11 18 yX1_init ∈ GW := gw_k tk9_1 145 (by decide +kernel) rfl
theorem w301 : Cond.instanceMethod yX1_init ∈ GW := gw_k tk9_1 146 (by decide +kernel) rfl
theorem nfX2 : ∀ j, j < 8 → defaultValue (tyX2 j) = vp_V [.null, .null, .null, .null, .null, .null, .null, .int 0] j := by decide +kernel
theorem w332 : Cond.classLink RX11 25 "WiringHouse$Checker" ∈ GW := gw_k tk9_1 177 (by decide +kernel) rfl
theorem w333 : Cond.instantiable RX2 8 ∈ GW := gw_k tk9_1 178 (by decide +kernel) rfl
theorem w336 : Cond.code yX2_init cX2_init 1 none ∈ GW := gw_k tk9_1 181 (rfl) rfl
theorem hdS_yX2_init : yX2_init.cls ≠ "java/lang/invoke/MethodHandle" ∧ yX2_init.cls ≠ "java/lang/invoke/VarHandle" ∧ (parseMethodDescriptor yX2_init.desc).map (fun d => d.parameters.length) = some 0 := by decide +kernel
theorem n334 : lw_tbl[334]? = some (Cond.methodLinkNest RX11 27 yX2_init "WiringHouse") := la9 (n := 155) (i := 179) lz9 (lb9 (i := 179) (by decide +kernel))
theorem w335 : Cond.instanceMethod yX2_init ∈ GW := gw_k tk9_1 180 (by decide +kernel) rfl
theorem nfX8 : ∀ j, j < 16 → defaultValue (tyX8 j) = vp_V [.null, .null, .null, .null, .null, .null, .null, .null, .null, .null, .null, .null, .int 0, .int 0, .int 0, .int 0] j := by decide +kernel
theorem w364 : Cond.classLink RX11 32 "WiringHouse$Stock" ∈ GW := gw_k tk9_1 209 (by decide +kernel) rfl
theorem w365 : Cond.instantiable RX8 16 ∈ GW := gw_k tk9_1 210 (by decide +kernel) rfl
theorem w368 : Cond.code yX8_init cX8_init 1 none ∈ GW := gw_k tk9_1 213 (rfl) rfl
theorem hdS_yX8_init : yX8_init.cls ≠ "java/lang/invoke/MethodHandle" ∧ yX8_init.cls ≠ "java/lang/invoke/VarHandle" ∧ (parseMethodDescriptor yX8_init.desc).map (fun d => d.parameters.length) = some 0 := by decide +kernel
theorem w366 : Cond.methodLink RX11 34 yX8_init ∈ GW := gw_k tk9_1 211 (by decide +kernel) rfl
theorem w367 : Cond.instanceMethod yX8_init ∈ GW := gw_k tk9_1 212 (by decide +kernel) rfl
theorem nfX7 : ∀ j, j < 10 → defaultValue (tyX7 j) = vp_V [.null, .null, .null, .null, .null, .int 0, .int 0, .int 0, .int 0, .int 0] j := by decide +kernel
theorem w429 : Cond.classLink RX11 39 "WiringHouse$Notes" ∈ GW := gw_k tk9_2 34 (by decide +kernel) rfl
theorem w430 : Cond.instantiable RX7 10 ∈ GW := gw_k tk9_2 35 (by decide +kernel) rfl
theorem w433 : Cond.code yX7_init cX7_init 1 none ∈ GW := gw_k tk9_2 38 (rfl) rfl
theorem hdS_yX7_init : yX7_init.cls ≠ "java/lang/invoke/MethodHandle" ∧ yX7_init.cls ≠ "java/lang/invoke/VarHandle" ∧ (parseMethodDescriptor yX7_init.desc).map (fun d => d.parameters.length) = some 0 := by decide +kernel
theorem n431 : lw_tbl[431]? = some (Cond.methodLinkNest RX11 41 yX7_init "WiringHouse") := la9 (n := 155) (i := 276) lz9 (la9 (n := 240) (i := 36) ln9_1 (lb9 (i := 36) (by decide +kernel)))
theorem w432 : Cond.instanceMethod yX7_init ∈ GW := gw_k tk9_2 37 (by decide +kernel) rfl
theorem nfX0 : ∀ j, j < 13 → defaultValue (tyX0 j) = vp_V [.null, .null, .null, .null, .null, .null, .null, .null, .null, .null, .null, .int 0, .int 0] j := by decide +kernel
theorem w467 : Cond.classLink RX11 46 "WiringHouse$Book" ∈ GW := gw_k tk9_2 72 (by decide +kernel) rfl
theorem w468 : Cond.instantiable RX0 13 ∈ GW := gw_k tk9_2 73 (by decide +kernel) rfl
theorem w471 : Cond.code yX0_init cX0_init 2 none ∈ GW := gw_k tk9_2 76 (rfl) rfl
theorem w470 : Cond.instanceMethod yX0_init ∈ GW := gw_k tk9_2 75 (by decide +kernel) rfl
theorem hdS_yX0_init : yX0_init.cls ≠ "java/lang/invoke/MethodHandle" ∧ yX0_init.cls ≠ "java/lang/invoke/VarHandle" ∧ (parseMethodDescriptor yX0_init.desc).map (fun d => d.parameters.length) = some 0 := by decide +kernel
theorem w469 : Cond.methodLink RX11 48 yX0_init ∈ GW := gw_k tk9_2 74 (by decide +kernel) rfl
theorem nfX5 : ∀ j, j < 15 → defaultValue (tyX5 j) = vp_V [.null, .null, .null, .null, .null, .null, .int 0, .int 0, .int 0, .int 0, .int 0, .int 0, .int 0, .int 0, .int 0] j := by decide +kernel
theorem w659 : Cond.classLink RX11 56 "WiringHouse$Machine" ∈ GW := gw_k tk9_3 24 (by decide +kernel) rfl
theorem w660 : Cond.instantiable RX5 15 ∈ GW := gw_k tk9_3 25 (by decide +kernel) rfl
theorem w663 : Cond.code yX5_init cX5_init 4 none ∈ GW := gw_k tk9_3 28 (rfl) rfl
theorem w662 : Cond.instanceMethod yX5_init ∈ GW := gw_k tk9_3 27 (by decide +kernel) rfl
theorem hdS_yX5_init : yX5_init.cls ≠ "java/lang/invoke/MethodHandle" ∧ yX5_init.cls ≠ "java/lang/invoke/VarHandle" ∧ (parseMethodDescriptor yX5_init.desc).map (fun d => d.parameters.length) = some 3 := by decide +kernel
theorem w661 : Cond.methodLink RX11 58 yX5_init ∈ GW := gw_k tk9_3 26 (by decide +kernel) rfl
theorem dk9_dX11_init_0_0 : dOk cX11_init [(0, .aload_n 0, 1), (1, .invokespecial 1, 3), (4, .aload_n 0, 1), (5, .new 7, 3), (8, .dup, 1), (9, .invokespecial 9, 3), (12, .putfield 10, 3), (15, .aload_n 0, 1), (16, .new 16, 3), (19, .dup, 1), (20, .aload_n 0, 1), (21, .getfield 10, 3), (24, .invokespecial 18, 3), (27, .putfield 21, 3), (30, .aload_n 0, 1), (31, .new 25, 3), (34, .dup, 1), (35, .invokespecial 27, 3), (38, .putfield 28, 3), (41, .aload_n 0, 1), (42, .new 32, 3), (45, .dup, 1), (46, .invokespecial 34, 3), (49, .putfield 35, 3)] = true ∧ dOk cX11_init [(52, .aload_n 0, 1), (53, .new 39, 3), (56, .dup, 1), (57, .invokespecial 41, 3), (60, .putfield 42, 3), (63, .aload_n 0, 1), (64, .new 46, 3), (67, .dup, 1), (68, .invokespecial 48, 3), (71, .putfield 49, 3), (74, .aload_n 0, 1), (75, .new 46, 3), (78, .dup, 1), (79, .invokespecial 48, 3), (82, .putfield 53, 3), (85, .aload_n 0, 1), (86, .new 56, 3), (89, .dup, 1), (90, .aload_n 0, 1), (91, .getfield 49, 3), (94, .aload_n 0, 1), (95, .getfield 35, 3), (98, .aload_n 0, 1), (99, .getfield 42, 3)] = true ∧ dOk cX11_init [(102, .invokespecial 58, 3), (105, .putfield 61, 3), (108, .return_, 1)] = true := by decide +kernel
theorem dX11_init_0 : decode cX11_init 0 = .ok (.aload_n 0, 1) := dr9 dk9_dX11_init_0_0.1 0 (0, .aload_n 0, 1) rfl
theorem dX11_init_1 : decode cX11_init 1 = .ok (.invokespecial 1, 3) := dr9 dk9_dX11_init_0_0.1 1 (1, .invokespecial 1, 3) rfl
theorem dX11_init_4 : decode cX11_init 4 = .ok (.aload_n 0, 1) := dr9 dk9_dX11_init_0_0.1 2 (4, .aload_n 0, 1) rfl
theorem dX11_init_5 : decode cX11_init 5 = .ok (.new 7, 3) := dr9 dk9_dX11_init_0_0.1 3 (5, .new 7, 3) rfl
theorem dX11_init_8 : decode cX11_init 8 = .ok (.dup, 1) := dr9 dk9_dX11_init_0_0.1 4 (8, .dup, 1) rfl
theorem dX11_init_9 : decode cX11_init 9 = .ok (.invokespecial 9, 3) := dr9 dk9_dX11_init_0_0.1 5 (9, .invokespecial 9, 3) rfl
theorem dX11_init_12 : decode cX11_init 12 = .ok (.putfield 10, 3) := dr9 dk9_dX11_init_0_0.1 6 (12, .putfield 10, 3) rfl
theorem dX11_init_15 : decode cX11_init 15 = .ok (.aload_n 0, 1) := dr9 dk9_dX11_init_0_0.1 7 (15, .aload_n 0, 1) rfl
theorem dX11_init_16 : decode cX11_init 16 = .ok (.new 16, 3) := dr9 dk9_dX11_init_0_0.1 8 (16, .new 16, 3) rfl
theorem dX11_init_19 : decode cX11_init 19 = .ok (.dup, 1) := dr9 dk9_dX11_init_0_0.1 9 (19, .dup, 1) rfl
theorem dX11_init_20 : decode cX11_init 20 = .ok (.aload_n 0, 1) := dr9 dk9_dX11_init_0_0.1 10 (20, .aload_n 0, 1) rfl
theorem dX11_init_21 : decode cX11_init 21 = .ok (.getfield 10, 3) := dr9 dk9_dX11_init_0_0.1 11 (21, .getfield 10, 3) rfl
theorem dX11_init_24 : decode cX11_init 24 = .ok (.invokespecial 18, 3) := dr9 dk9_dX11_init_0_0.1 12 (24, .invokespecial 18, 3) rfl
theorem dX11_init_27 : decode cX11_init 27 = .ok (.putfield 21, 3) := dr9 dk9_dX11_init_0_0.1 13 (27, .putfield 21, 3) rfl
theorem dX11_init_30 : decode cX11_init 30 = .ok (.aload_n 0, 1) := dr9 dk9_dX11_init_0_0.1 14 (30, .aload_n 0, 1) rfl
theorem dX11_init_31 : decode cX11_init 31 = .ok (.new 25, 3) := dr9 dk9_dX11_init_0_0.1 15 (31, .new 25, 3) rfl
theorem dX11_init_34 : decode cX11_init 34 = .ok (.dup, 1) := dr9 dk9_dX11_init_0_0.1 16 (34, .dup, 1) rfl
theorem dX11_init_35 : decode cX11_init 35 = .ok (.invokespecial 27, 3) := dr9 dk9_dX11_init_0_0.1 17 (35, .invokespecial 27, 3) rfl
theorem dX11_init_38 : decode cX11_init 38 = .ok (.putfield 28, 3) := dr9 dk9_dX11_init_0_0.1 18 (38, .putfield 28, 3) rfl
theorem dX11_init_41 : decode cX11_init 41 = .ok (.aload_n 0, 1) := dr9 dk9_dX11_init_0_0.1 19 (41, .aload_n 0, 1) rfl
theorem dX11_init_42 : decode cX11_init 42 = .ok (.new 32, 3) := dr9 dk9_dX11_init_0_0.1 20 (42, .new 32, 3) rfl
theorem dX11_init_45 : decode cX11_init 45 = .ok (.dup, 1) := dr9 dk9_dX11_init_0_0.1 21 (45, .dup, 1) rfl
theorem dX11_init_46 : decode cX11_init 46 = .ok (.invokespecial 34, 3) := dr9 dk9_dX11_init_0_0.1 22 (46, .invokespecial 34, 3) rfl
theorem dX11_init_49 : decode cX11_init 49 = .ok (.putfield 35, 3) := dr9 dk9_dX11_init_0_0.1 23 (49, .putfield 35, 3) rfl
theorem dX11_init_52 : decode cX11_init 52 = .ok (.aload_n 0, 1) := dr9 dk9_dX11_init_0_0.2.1 0 (52, .aload_n 0, 1) rfl
theorem dX11_init_53 : decode cX11_init 53 = .ok (.new 39, 3) := dr9 dk9_dX11_init_0_0.2.1 1 (53, .new 39, 3) rfl
theorem dX11_init_56 : decode cX11_init 56 = .ok (.dup, 1) := dr9 dk9_dX11_init_0_0.2.1 2 (56, .dup, 1) rfl
theorem dX11_init_57 : decode cX11_init 57 = .ok (.invokespecial 41, 3) := dr9 dk9_dX11_init_0_0.2.1 3 (57, .invokespecial 41, 3) rfl
theorem dX11_init_60 : decode cX11_init 60 = .ok (.putfield 42, 3) := dr9 dk9_dX11_init_0_0.2.1 4 (60, .putfield 42, 3) rfl
theorem dX11_init_63 : decode cX11_init 63 = .ok (.aload_n 0, 1) := dr9 dk9_dX11_init_0_0.2.1 5 (63, .aload_n 0, 1) rfl
theorem dX11_init_64 : decode cX11_init 64 = .ok (.new 46, 3) := dr9 dk9_dX11_init_0_0.2.1 6 (64, .new 46, 3) rfl
theorem dX11_init_67 : decode cX11_init 67 = .ok (.dup, 1) := dr9 dk9_dX11_init_0_0.2.1 7 (67, .dup, 1) rfl
theorem dX11_init_68 : decode cX11_init 68 = .ok (.invokespecial 48, 3) := dr9 dk9_dX11_init_0_0.2.1 8 (68, .invokespecial 48, 3) rfl
theorem dX11_init_71 : decode cX11_init 71 = .ok (.putfield 49, 3) := dr9 dk9_dX11_init_0_0.2.1 9 (71, .putfield 49, 3) rfl
theorem dX11_init_74 : decode cX11_init 74 = .ok (.aload_n 0, 1) := dr9 dk9_dX11_init_0_0.2.1 10 (74, .aload_n 0, 1) rfl
theorem dX11_init_75 : decode cX11_init 75 = .ok (.new 46, 3) := dr9 dk9_dX11_init_0_0.2.1 11 (75, .new 46, 3) rfl
theorem dX11_init_78 : decode cX11_init 78 = .ok (.dup, 1) := dr9 dk9_dX11_init_0_0.2.1 12 (78, .dup, 1) rfl
theorem dX11_init_79 : decode cX11_init 79 = .ok (.invokespecial 48, 3) := dr9 dk9_dX11_init_0_0.2.1 13 (79, .invokespecial 48, 3) rfl
theorem dX11_init_82 : decode cX11_init 82 = .ok (.putfield 53, 3) := dr9 dk9_dX11_init_0_0.2.1 14 (82, .putfield 53, 3) rfl
theorem dX11_init_85 : decode cX11_init 85 = .ok (.aload_n 0, 1) := dr9 dk9_dX11_init_0_0.2.1 15 (85, .aload_n 0, 1) rfl
theorem dX11_init_86 : decode cX11_init 86 = .ok (.new 56, 3) := dr9 dk9_dX11_init_0_0.2.1 16 (86, .new 56, 3) rfl
theorem dX11_init_89 : decode cX11_init 89 = .ok (.dup, 1) := dr9 dk9_dX11_init_0_0.2.1 17 (89, .dup, 1) rfl
theorem dX11_init_90 : decode cX11_init 90 = .ok (.aload_n 0, 1) := dr9 dk9_dX11_init_0_0.2.1 18 (90, .aload_n 0, 1) rfl
theorem dX11_init_91 : decode cX11_init 91 = .ok (.getfield 49, 3) := dr9 dk9_dX11_init_0_0.2.1 19 (91, .getfield 49, 3) rfl
theorem dX11_init_94 : decode cX11_init 94 = .ok (.aload_n 0, 1) := dr9 dk9_dX11_init_0_0.2.1 20 (94, .aload_n 0, 1) rfl
theorem dX11_init_95 : decode cX11_init 95 = .ok (.getfield 35, 3) := dr9 dk9_dX11_init_0_0.2.1 21 (95, .getfield 35, 3) rfl
theorem dX11_init_98 : decode cX11_init 98 = .ok (.aload_n 0, 1) := dr9 dk9_dX11_init_0_0.2.1 22 (98, .aload_n 0, 1) rfl
theorem dX11_init_99 : decode cX11_init 99 = .ok (.getfield 42, 3) := dr9 dk9_dX11_init_0_0.2.1 23 (99, .getfield 42, 3) rfl
theorem dX11_init_102 : decode cX11_init 102 = .ok (.invokespecial 58, 3) := dr9 dk9_dX11_init_0_0.2.2 0 (102, .invokespecial 58, 3) rfl
theorem dX11_init_105 : decode cX11_init 105 = .ok (.putfield 61, 3) := dr9 dk9_dX11_init_0_0.2.2 1 (105, .putfield 61, 3) rfl
theorem dX11_init_108 : decode cX11_init 108 = .ok (.return_, 1) := dr9 dk9_dX11_init_0_0.2.2 2 (108, .return_, 1) rfl
abbrev r_c_House_init : Room := { frames := 5, cells := 335, slots := 47911, locals := 108 }
abbrev q_c_House_init (D : va_G) (h0 : Nat) (A : Nat → Prop) : Array Value → State → Outcome → State → Prop := va_Qv (fun (u : HU) => (∀ q : Nat, u.2.2.1 q = if q < 960 then -1 else 0) ∧ u.1 0 = h0 ∧ ∀ j : Nat, j < 28 → u.2.2.2.1 j = kg 155 j) (fun u t => gq D A ((fun (u : HU) => xw (adU u) (kkU u) (V0 u) (L0 u) (Z0 u)) u) ((fun (u : HU) => xty (kkU u) (Z0 u)) u) t) A
set_option maxHeartbeats 4000000 in
set_option maxRecDepth 100000 in
theorem c_House_init (l : Launch) (D : va_G) (ks : KS) (sz : Nat) (h0 : Nat) : Met l yX11_init (Cond.code yX11_init cX11_init 1 none :: GW) r_c_House_init (va_Pc [.ref h0] (gp D ks [(h0, .inr (11, [.null, .null, .null, .null, .null, .null, .null, .null, .int 0, .int 0]))] [] sz)) (q_c_House_init D h0 (va_A [(h0, .inr (11, [.null, .null, .null, .null, .null, .null, .null, .null, .int 0, .int 0]))] sz)) 335 47911 (va_A [(h0, .inr (11, [.null, .null, .null, .null, .null, .null, .null, .null, .int 0, .int 0]))] sz) := by
  refine g_met (q_c_House_init D h0) (by decide) (Nat.le_of_ble_eq_true rfl) ?_
  intro p e s m below meth c A ls H locs hx hb hr hml hown hg hlocks hin hnw hgk hP hK hD hS hA hl
  have hown : s.vm.findClass RX11 = some m.cls := hown
  have hin : meth.name = "<init>" := hin
  have hl : lv_has ls 1 [(0, .ref h0)] := hl
  refine lv_aload_n hx hb dX11_init_0 rfl (lv_at hl 0 rfl) ?_
  refine W.objInit hx hb hown (hg _ w187) (hg _ w188) (hg _ wobj) rfl (by rw [hml]; exact hl.1) rfl dX11_init_1 (Nat.le_of_ble_eq_true rfl) (Nat.le_of_ble_eq_true rfl) ?_
  refine W.eq (g2 := F0 m 4 ls []) rfl ?_
  refine lv_aload_n hx hb dX11_init_4 rfl (lv_at hl 0 rfl) ?_
  refine va_new (ci := 9) (fs := [.null, .null, .null, .null, .null, .int 0, .int 0, .int 0, .int 0, .int 0, .int 0, .long 0]) (C := RX9) (T := TX9) (N := 12) hx hb hg inX9 tyX9 tyX9_ok hown (hg _ w190) (hg _ w191) (hg _ w157) hK hP hD hS hA rfl nfX9 (Nat.le_of_ble_eq_true rfl) (Nat.le_of_ble_eq_true rfl) dX11_init_5 (fun q1 H hP hD hS => ?_)
  refine va_cv hP hD (ws' := [(h0, .inr (11, [.null, .null, .null, .null, .null, .null, .null, .null, .int 0, .int 0])), (q1, .inr (9, [.null, .null, .null, .null, .null, .int 0, .int 0, .int 0, .int 0, .int 0, .int 0, .long 0]))]) rfl (fun hP hD => ?_)
  refine lv_dup hx hb dX11_init_8 rfl ?_
  refine g_void (wr := [(h0, .inr (11, [.null, .null, .null, .null, .null, .null, .null, .null, .int 0, .int 0]))]) (tr := []) (g_runI (As := []) (rest := [.ref q1, .ref h0]) (wc := [(q1, .inr (9, [.null, .null, .null, .null, .null, .int 0, .int 0, .int 0, .int 0, .int 0, .int 0, .long 0]))]) (tc := []) hx hb hml hown hg gw_self hP hD hK hS hA hnw hgk [1] [] (by decide) rfl rfl (c_Tape_init l D ks H.size q1) w192 w193 w157 w194 rfl hdS_yX9_init ⟨Nat.le_of_ble_eq_true rfl, Nat.le_of_ble_eq_true rfl⟩ rfl hl.1 rfl (Nat.le_of_ble_eq_true rfl) dX11_init_9 ⟨Nat.le_of_ble_eq_true rfl, Nat.le_of_ble_eq_true rfl⟩) hP hD hK hS hA [1] [0] [] rfl rfl (by decide) (by decide) rfl (fun u14 H locs hw13 hP hD hK hS => ?_)
  obtain ⟨a_2, a_3, a_4, a_5, a_6, k_7, k_8, k_9, k_10, k_11, gk_12⟩ := u14
  have hw13 : ∀ j : Nat, j < 28 → gk_12 j = kg 155 j := hw13
  refine va_cv hP hD (ws' := [(h0, .inr (11, [.null, .null, .null, .null, .null, .null, .null, .null, .int 0, .int 0])), (q1, .inr (9, [.ref a_2, .ref a_3, .ref a_4, .ref a_5, .ref a_6, .int 0, .int 0, .int 0, .int 0, .int 0, .int 0, .long 0])), (a_2, .inl (k_7, 4000, .inl (fun _ => 0))), (a_3, .inl (k_8, 28, .inr (.inl (gk_12)))), (a_4, .inl (k_9, 4001, .inl (fun _ => 0))), (a_5, .inl (k_10, 4001, .inl (fun _ => 0))), (a_6, .inl (k_11, 4001, .inr (.inl (fun _ => 0))))]) rfl (fun hP hD => ?_)
  have hK : va_K D vwCl [(k_7, .byte), (k_8, .long), (k_9, .int), (k_10, .int), (k_11, .long)] s := hK
  refine va_putF (D := D) (ci := 11) (v := .ref q1) (ty := tyX11 0) (C := RX11) (T := TX11) (N := 10) hx hb hg inX11 tyX11 tyX11_ok nmX11 hown hK hP hD hS 0 rfl rfl 0 (by decide) (hg _ w715) (fun _ h9 => h9) rfl hin rfl (tyX11_ok 0 (by decide)) rfl rfl (Nat.le_of_ble_eq_true rfl) dX11_init_12 (fun H locs hP hD hS => ?_)
  refine va_cv hP hD (ws' := [(h0, .inr (11, [.ref q1, .null, .null, .null, .null, .null, .null, .null, .int 0, .int 0])), (q1, .inr (9, [.ref a_2, .ref a_3, .ref a_4, .ref a_5, .ref a_6, .int 0, .int 0, .int 0, .int 0, .int 0, .int 0, .long 0])), (a_2, .inl (k_7, 4000, .inl (fun _ => 0))), (a_3, .inl (k_8, 28, .inr (.inl (gk_12)))), (a_4, .inl (k_9, 4001, .inl (fun _ => 0))), (a_5, .inl (k_10, 4001, .inl (fun _ => 0))), (a_6, .inl (k_11, 4001, .inr (.inl (fun _ => 0))))]) rfl (fun hP hD => ?_)
  refine lv_aload_n hx hb dX11_init_15 rfl (lv_at hl 0 rfl) ?_
  refine va_new (ci := 1) (fs := [.null, .null, .null, .int 0, .int 0, .long 0, .int 0, .int 0, .int 0]) (C := RX1) (T := TX1) (N := 9) hx hb hg inX1 tyX1 tyX1_ok hown (hg _ w298) (hg _ w299) (hg _ w162) hK hP hD hS hA rfl nfX1 (Nat.le_of_ble_eq_true rfl) (Nat.le_of_ble_eq_true rfl) dX11_init_16 (fun q15 H hP hD hS => ?_)
  refine va_cv hP hD (ws' := [(h0, .inr (11, [.ref q1, .null, .null, .null, .null, .null, .null, .null, .int 0, .int 0])), (q1, .inr (9, [.ref a_2, .ref a_3, .ref a_4, .ref a_5, .ref a_6, .int 0, .int 0, .int 0, .int 0, .int 0, .int 0, .long 0])), (a_2, .inl (k_7, 4000, .inl (fun _ => 0))), (a_3, .inl (k_8, 28, .inr (.inl (gk_12)))), (a_4, .inl (k_9, 4001, .inl (fun _ => 0))), (a_5, .inl (k_10, 4001, .inl (fun _ => 0))), (a_6, .inl (k_11, 4001, .inr (.inl (fun _ => 0)))), (q15, .inr (1, [.null, .null, .null, .int 0, .int 0, .long 0, .int 0, .int 0, .int 0]))]) rfl (fun hP hD => ?_)
  refine lv_dup hx hb dX11_init_19 rfl ?_
  refine lv_aload_n hx hb dX11_init_20 rfl (lv_at hl 0 rfl) ?_
  refine va_get (D := D) (ci := 11) (v := .ref q1) (C := RX11) (T := TX11) (N := 10) hx hb hg inX11 hown hK hP 0 rfl rfl 0 (by decide) (hg _ w715) (fun _ h9 => h9) rfl dX11_init_21 ?_
  refine g_void (wr := [(h0, .inr (11, [.ref q1, .null, .null, .null, .null, .null, .null, .null, .int 0, .int 0])), (q1, .inr (9, [.ref a_2, .ref a_3, .ref a_4, .ref a_5, .ref a_6, .int 0, .int 0, .int 0, .int 0, .int 0, .int 0, .long 0])), (a_2, .inl (k_7, 4000, .inl (fun _ => 0))), (a_3, .inl (k_8, 28, .inr (.inl (gk_12)))), (a_4, .inl (k_9, 4001, .inl (fun _ => 0))), (a_5, .inl (k_10, 4001, .inl (fun _ => 0))), (a_6, .inl (k_11, 4001, .inr (.inl (fun _ => 0))))]) (tr := [(k_7, .byte), (k_8, .long), (k_9, .int), (k_10, .int), (k_11, .long)]) (g_runI (As := [.ref q1]) (rest := [.ref q15, .ref h0]) (wc := [(q15, .inr (1, [.null, .null, .null, .int 0, .int 0, .long 0, .int 0, .int 0, .int 0]))]) (tc := []) hx hb hml hown hg gw_self hP hD hK hS hA hnw hgk [7] [] (by decide) rfl rfl (c_Reader_init l D ks H.size q15 q1) w300 w301 w162 w302 rfl hdS_yX1_init ⟨Nat.le_of_ble_eq_true rfl, Nat.le_of_ble_eq_true rfl⟩ rfl hl.1 rfl (Nat.le_of_ble_eq_true rfl) dX11_init_24 ⟨Nat.le_of_ble_eq_true rfl, Nat.le_of_ble_eq_true rfl⟩) hP hD hK hS hA [7] [0, 1, 2, 3, 4, 5, 6] [0, 1, 2, 3, 4] rfl rfl (by decide) (by decide) rfl (fun u17 H locs hw16 hP hD hK hS => ?_)
  refine va_cv hP hD (ws' := [(h0, .inr (11, [.ref q1, .null, .null, .null, .null, .null, .null, .null, .int 0, .int 0])), (q1, .inr (9, [.ref a_2, .ref a_3, .ref a_4, .ref a_5, .ref a_6, .int 0, .int 0, .int 0, .int 0, .int 0, .int 0, .long 0])), (a_2, .inl (k_7, 4000, .inl (fun _ => 0))), (a_3, .inl (k_8, 28, .inr (.inl (gk_12)))), (a_4, .inl (k_9, 4001, .inl (fun _ => 0))), (a_5, .inl (k_10, 4001, .inl (fun _ => 0))), (a_6, .inl (k_11, 4001, .inr (.inl (fun _ => 0)))), (q15, .inr (1, [.ref q1, .null, .null, .int 0, .int 0, .long 0, .int 0, .int 0, .int 0]))]) rfl (fun hP hD => ?_)
  have hK : va_K D vwCl [(k_7, .byte), (k_8, .long), (k_9, .int), (k_10, .int), (k_11, .long)] s := hK
  refine va_putF (D := D) (ci := 11) (v := .ref q15) (ty := tyX11 1) (C := RX11) (T := TX11) (N := 10) hx hb hg inX11 tyX11 tyX11_ok nmX11 hown hK hP hD hS 0 rfl rfl 1 (by decide) (hg _ w716) (fun _ h9 => h9) rfl hin rfl (tyX11_ok 1 (by decide)) rfl rfl (Nat.le_of_ble_eq_true rfl) dX11_init_27 (fun H locs hP hD hS => ?_)
  refine va_cv hP hD (ws' := [(h0, .inr (11, [.ref q1, .ref q15, .null, .null, .null, .null, .null, .null, .int 0, .int 0])), (q1, .inr (9, [.ref a_2, .ref a_3, .ref a_4, .ref a_5, .ref a_6, .int 0, .int 0, .int 0, .int 0, .int 0, .int 0, .long 0])), (a_2, .inl (k_7, 4000, .inl (fun _ => 0))), (a_3, .inl (k_8, 28, .inr (.inl (gk_12)))), (a_4, .inl (k_9, 4001, .inl (fun _ => 0))), (a_5, .inl (k_10, 4001, .inl (fun _ => 0))), (a_6, .inl (k_11, 4001, .inr (.inl (fun _ => 0)))), (q15, .inr (1, [.ref q1, .null, .null, .int 0, .int 0, .long 0, .int 0, .int 0, .int 0]))]) rfl (fun hP hD => ?_)
  refine lv_aload_n hx hb dX11_init_30 rfl (lv_at hl 0 rfl) ?_
  refine va_new (ci := 2) (fs := [.null, .null, .null, .null, .null, .null, .null, .int 0]) (C := RX2) (T := TX2) (N := 8) hx hb hg inX2 tyX2 tyX2_ok hown (hg _ w332) (hg _ w333) (hg _ w163) hK hP hD hS hA rfl nfX2 (Nat.le_of_ble_eq_true rfl) (Nat.le_of_ble_eq_true rfl) dX11_init_31 (fun q18 H hP hD hS => ?_)
  refine va_cv hP hD (ws' := [(h0, .inr (11, [.ref q1, .ref q15, .null, .null, .null, .null, .null, .null, .int 0, .int 0])), (q1, .inr (9, [.ref a_2, .ref a_3, .ref a_4, .ref a_5, .ref a_6, .int 0, .int 0, .int 0, .int 0, .int 0, .int 0, .long 0])), (a_2, .inl (k_7, 4000, .inl (fun _ => 0))), (a_3, .inl (k_8, 28, .inr (.inl (gk_12)))), (a_4, .inl (k_9, 4001, .inl (fun _ => 0))), (a_5, .inl (k_10, 4001, .inl (fun _ => 0))), (a_6, .inl (k_11, 4001, .inr (.inl (fun _ => 0)))), (q15, .inr (1, [.ref q1, .null, .null, .int 0, .int 0, .long 0, .int 0, .int 0, .int 0])), (q18, .inr (2, [.null, .null, .null, .null, .null, .null, .null, .int 0]))]) rfl (fun hP hD => ?_)
  refine lv_dup hx hb dX11_init_34 rfl ?_
  refine g_void (wr := [(h0, .inr (11, [.ref q1, .ref q15, .null, .null, .null, .null, .null, .null, .int 0, .int 0])), (q1, .inr (9, [.ref a_2, .ref a_3, .ref a_4, .ref a_5, .ref a_6, .int 0, .int 0, .int 0, .int 0, .int 0, .int 0, .long 0])), (a_2, .inl (k_7, 4000, .inl (fun _ => 0))), (a_3, .inl (k_8, 28, .inr (.inl (gk_12)))), (a_4, .inl (k_9, 4001, .inl (fun _ => 0))), (a_5, .inl (k_10, 4001, .inl (fun _ => 0))), (a_6, .inl (k_11, 4001, .inr (.inl (fun _ => 0)))), (q15, .inr (1, [.ref q1, .null, .null, .int 0, .int 0, .long 0, .int 0, .int 0, .int 0]))]) (tr := [(k_7, .byte), (k_8, .long), (k_9, .int), (k_10, .int), (k_11, .long)]) (g_runIN (As := []) (rest := [.ref q18, .ref h0]) (wc := [(q18, .inr (2, [.null, .null, .null, .null, .null, .null, .null, .int 0]))]) (tc := []) hx hb hml hown hg gw_self hP hD hK hS hA hnw hgk [8] [] (by decide) rfl rfl (c_Checker_init l D ks H.size q18) n334 w335 w163 w336 rfl hdS_yX2_init ⟨Nat.le_of_ble_eq_true rfl, Nat.le_of_ble_eq_true rfl⟩ rfl hl.1 rfl (Nat.le_of_ble_eq_true rfl) dX11_init_35 ⟨Nat.le_of_ble_eq_true rfl, Nat.le_of_ble_eq_true rfl⟩) hP hD hK hS hA [8] [0, 1, 2, 3, 4, 5, 6, 7] [0, 1, 2, 3, 4] rfl rfl (by decide) (by decide) rfl (fun u32 H locs hw31 hP hD hK hS => ?_)
  obtain ⟨a_19, a_20, a_21, a_22, a_23, a_24, k_25, k_26, k_27, k_28, k_29, k_30⟩ := u32
  refine va_cv hP hD (ws' := [(h0, .inr (11, [.ref q1, .ref q15, .null, .null, .null, .null, .null, .null, .int 0, .int 0])), (q1, .inr (9, [.ref a_2, .ref a_3, .ref a_4, .ref a_5, .ref a_6, .int 0, .int 0, .int 0, .int 0, .int 0, .int 0, .long 0])), (a_2, .inl (k_7, 4000, .inl (fun _ => 0))), (a_3, .inl (k_8, 28, .inr (.inl (gk_12)))), (a_4, .inl (k_9, 4001, .inl (fun _ => 0))), (a_5, .inl (k_10, 4001, .inl (fun _ => 0))), (a_6, .inl (k_11, 4001, .inr (.inl (fun _ => 0)))), (q15, .inr (1, [.ref q1, .null, .null, .int 0, .int 0, .long 0, .int 0, .int 0, .int 0])), (q18, .inr (2, [.ref a_19, .ref a_20, .ref a_21, .ref a_22, .ref a_23, .ref a_24, .null, .int 0])), (a_19, .inl (k_25, 100, .inl (fun _ => 0))), (a_20, .inl (k_26, 100, .inl (fun _ => 0))), (a_21, .inl (k_27, 100, .inl (fun _ => 0))), (a_22, .inl (k_28, 2400, .inl (fun _ => 0))), (a_23, .inl (k_29, 24, .inl (fun _ => 0))), (a_24, .inl (k_30, 24, .inl (fun _ => 0)))]) rfl (fun hP hD => ?_)
  have hK : va_K D vwCl [(k_7, .byte), (k_8, .long), (k_9, .int), (k_10, .int), (k_11, .long), (k_25, .int), (k_26, .int), (k_27, .int), (k_28, .int), (k_29, .int), (k_30, .int)] s := hK
  refine va_putF (D := D) (ci := 11) (v := .ref q18) (ty := tyX11 2) (C := RX11) (T := TX11) (N := 10) hx hb hg inX11 tyX11 tyX11_ok nmX11 hown hK hP hD hS 0 rfl rfl 2 (by decide) (hg _ w717) (fun _ h9 => h9) rfl hin rfl (tyX11_ok 2 (by decide)) rfl rfl (Nat.le_of_ble_eq_true rfl) dX11_init_38 (fun H locs hP hD hS => ?_)
  refine va_cv hP hD (ws' := [(h0, .inr (11, [.ref q1, .ref q15, .ref q18, .null, .null, .null, .null, .null, .int 0, .int 0])), (q1, .inr (9, [.ref a_2, .ref a_3, .ref a_4, .ref a_5, .ref a_6, .int 0, .int 0, .int 0, .int 0, .int 0, .int 0, .long 0])), (a_2, .inl (k_7, 4000, .inl (fun _ => 0))), (a_3, .inl (k_8, 28, .inr (.inl (gk_12)))), (a_4, .inl (k_9, 4001, .inl (fun _ => 0))), (a_5, .inl (k_10, 4001, .inl (fun _ => 0))), (a_6, .inl (k_11, 4001, .inr (.inl (fun _ => 0)))), (q15, .inr (1, [.ref q1, .null, .null, .int 0, .int 0, .long 0, .int 0, .int 0, .int 0])), (q18, .inr (2, [.ref a_19, .ref a_20, .ref a_21, .ref a_22, .ref a_23, .ref a_24, .null, .int 0])), (a_19, .inl (k_25, 100, .inl (fun _ => 0))), (a_20, .inl (k_26, 100, .inl (fun _ => 0))), (a_21, .inl (k_27, 100, .inl (fun _ => 0))), (a_22, .inl (k_28, 2400, .inl (fun _ => 0))), (a_23, .inl (k_29, 24, .inl (fun _ => 0))), (a_24, .inl (k_30, 24, .inl (fun _ => 0)))]) rfl (fun hP hD => ?_)
  refine lv_aload_n hx hb dX11_init_41 rfl (lv_at hl 0 rfl) ?_
  refine va_new (ci := 8) (fs := [.null, .null, .null, .null, .null, .null, .null, .null, .null, .null, .null, .null, .int 0, .int 0, .int 0, .int 0]) (C := RX8) (T := TX8) (N := 16) hx hb hg inX8 tyX8 tyX8_ok hown (hg _ w364) (hg _ w365) (hg _ w164) hK hP hD hS hA rfl nfX8 (Nat.le_of_ble_eq_true rfl) (Nat.le_of_ble_eq_true rfl) dX11_init_42 (fun q33 H hP hD hS => ?_)
  refine va_cv hP hD (ws' := [(h0, .inr (11, [.ref q1, .ref q15, .ref q18, .null, .null, .null, .null, .null, .int 0, .int 0])), (q1, .inr (9, [.ref a_2, .ref a_3, .ref a_4, .ref a_5, .ref a_6, .int 0, .int 0, .int 0, .int 0, .int 0, .int 0, .long 0])), (a_2, .inl (k_7, 4000, .inl (fun _ => 0))), (a_3, .inl (k_8, 28, .inr (.inl (gk_12)))), (a_4, .inl (k_9, 4001, .inl (fun _ => 0))), (a_5, .inl (k_10, 4001, .inl (fun _ => 0))), (a_6, .inl (k_11, 4001, .inr (.inl (fun _ => 0)))), (q15, .inr (1, [.ref q1, .null, .null, .int 0, .int 0, .long 0, .int 0, .int 0, .int 0])), (q18, .inr (2, [.ref a_19, .ref a_20, .ref a_21, .ref a_22, .ref a_23, .ref a_24, .null, .int 0])), (a_19, .inl (k_25, 100, .inl (fun _ => 0))), (a_20, .inl (k_26, 100, .inl (fun _ => 0))), (a_21, .inl (k_27, 100, .inl (fun _ => 0))), (a_22, .inl (k_28, 2400, .inl (fun _ => 0))), (a_23, .inl (k_29, 24, .inl (fun _ => 0))), (a_24, .inl (k_30, 24, .inl (fun _ => 0))), (q33, .inr (8, [.null, .null, .null, .null, .null, .null, .null, .null, .null, .null, .null, .null, .int 0, .int 0, .int 0, .int 0]))]) rfl (fun hP hD => ?_)
  refine lv_dup hx hb dX11_init_45 rfl ?_
  refine g_void (wr := [(h0, .inr (11, [.ref q1, .ref q15, .ref q18, .null, .null, .null, .null, .null, .int 0, .int 0])), (q1, .inr (9, [.ref a_2, .ref a_3, .ref a_4, .ref a_5, .ref a_6, .int 0, .int 0, .int 0, .int 0, .int 0, .int 0, .long 0])), (a_2, .inl (k_7, 4000, .inl (fun _ => 0))), (a_3, .inl (k_8, 28, .inr (.inl (gk_12)))), (a_4, .inl (k_9, 4001, .inl (fun _ => 0))), (a_5, .inl (k_10, 4001, .inl (fun _ => 0))), (a_6, .inl (k_11, 4001, .inr (.inl (fun _ => 0)))), (q15, .inr (1, [.ref q1, .null, .null, .int 0, .int 0, .long 0, .int 0, .int 0, .int 0])), (q18, .inr (2, [.ref a_19, .ref a_20, .ref a_21, .ref a_22, .ref a_23, .ref a_24, .null, .int 0])), (a_19, .inl (k_25, 100, .inl (fun _ => 0))), (a_20, .inl (k_26, 100, .inl (fun _ => 0))), (a_21, .inl (k_27, 100, .inl (fun _ => 0))), (a_22, .inl (k_28, 2400, .inl (fun _ => 0))), (a_23, .inl (k_29, 24, .inl (fun _ => 0))), (a_24, .inl (k_30, 24, .inl (fun _ => 0)))]) (tr := [(k_7, .byte), (k_8, .long), (k_9, .int), (k_10, .int), (k_11, .long), (k_25, .int), (k_26, .int), (k_27, .int), (k_28, .int), (k_29, .int), (k_30, .int)]) (g_runI (As := []) (rest := [.ref q33, .ref h0]) (wc := [(q33, .inr (8, [.null, .null, .null, .null, .null, .null, .null, .null, .null, .null, .null, .null, .int 0, .int 0, .int 0, .int 0]))]) (tc := []) hx hb hml hown hg gw_self hP hD hK hS hA hnw hgk [15] [] (by decide) rfl rfl (c_Stock_init l D ks H.size q33) w366 w367 w164 w368 rfl hdS_yX8_init ⟨Nat.le_of_ble_eq_true rfl, Nat.le_of_ble_eq_true rfl⟩ rfl hl.1 rfl (Nat.le_of_ble_eq_true rfl) dX11_init_46 ⟨Nat.le_of_ble_eq_true rfl, Nat.le_of_ble_eq_true rfl⟩) hP hD hK hS hA [15] [0, 1, 2, 3, 4, 5, 6, 7, 8, 9, 10, 11, 12, 13, 14] [0, 1, 2, 3, 4, 5, 6, 7, 8, 9, 10] rfl rfl (by decide) (by decide) rfl (fun u60 H locs hw59 hP hD hK hS => ?_)
  obtain ⟨a_34, a_35, a_36, a_37, a_38, a_39, a_40, a_41, a_42, a_43, a_44, a_45, k_46, k_47, k_48, k_49, k_50, k_51, k_52, k_53, k_54, k_55, k_56, k_57, g_58⟩ := u60
  have hw59 : ∀ q : Nat, g_58 q = if q < 960 then -1 else 0 := hw59
  refine va_cv hP hD (ws' := [(h0, .inr (11, [.ref q1, .ref q15, .ref q18, .null, .null, .null, .null, .null, .int 0, .int 0])), (q1, .inr (9, [.ref a_2, .ref a_3, .ref a_4, .ref a_5, .ref a_6, .int 0, .int 0, .int 0, .int 0, .int 0, .int 0, .long 0])), (a_2, .inl (k_7, 4000, .inl (fun _ => 0))), (a_3, .inl (k_8, 28, .inr (.inl (gk_12)))), (a_4, .inl (k_9, 4001, .inl (fun _ => 0))), (a_5, .inl (k_10, 4001, .inl (fun _ => 0))), (a_6, .inl (k_11, 4001, .inr (.inl (fun _ => 0)))), (q15, .inr (1, [.ref q1, .null, .null, .int 0, .int 0, .long 0, .int 0, .int 0, .int 0])), (q18, .inr (2, [.ref a_19, .ref a_20, .ref a_21, .ref a_22, .ref a_23, .ref a_24, .null, .int 0])), (a_19, .inl (k_25, 100, .inl (fun _ => 0))), (a_20, .inl (k_26, 100, .inl (fun _ => 0))), (a_21, .inl (k_27, 100, .inl (fun _ => 0))), (a_22, .inl (k_28, 2400, .inl (fun _ => 0))), (a_23, .inl (k_29, 24, .inl (fun _ => 0))), (a_24, .inl (k_30, 24, .inl (fun _ => 0))), (q33, .inr (8, [.ref a_34, .ref a_35, .ref a_36, .ref a_37, .ref a_38, .ref a_39, .ref a_40, .ref a_41, .ref a_42, .ref a_43, .ref a_44, .ref a_45, .int 1, .int 0, .int 0, .int 0])), (a_34, .inl (k_46, 40, .inl (fun _ => 0))), (a_35, .inl (k_47, 40, .inl (fun _ => 0))), (a_36, .inl (k_48, 40, .inl (upd (fun _ => 0) 0 1))), (a_37, .inl (k_49, 40, .inl (fun _ => 0))), (a_38, .inl (k_50, 960, .inl (g_58))), (a_39, .inl (k_51, 300, .inl (fun _ => 0))), (a_40, .inl (k_52, 300, .inl (fun _ => 0))), (a_41, .inl (k_53, 300, .inl (fun _ => 0))), (a_42, .inl (k_54, 300, .inl (fun _ => 0))), (a_43, .inl (k_55, 2400, .inl (fun _ => 0))), (a_44, .inl (k_56, 512, .inl (fun _ => 0))), (a_45, .inl (k_57, 512, .inl (fun _ => 0)))]) rfl (fun hP hD => ?_)
  have hK : va_K D vwCl [(k_7, .byte), (k_8, .long), (k_9, .int), (k_10, .int), (k_11, .long), (k_25, .int), (k_26, .int), (k_27, .int), (k_28, .int), (k_29, .int), (k_30, .int), (k_46, .int), (k_47, .int), (k_48, .boolean), (k_49, .int), (k_50, .int), (k_51, .int), (k_52, .int), (k_53, .int), (k_54, .int), (k_55, .int), (k_56, .int), (k_57, .int)] s := hK
  refine va_putF (D := D) (ci := 11) (v := .ref q33) (ty := tyX11 3) (C := RX11) (T := TX11) (N := 10) hx hb hg inX11 tyX11 tyX11_ok nmX11 hown hK hP hD hS 0 rfl rfl 3 (by decide) (hg _ w718) (fun _ h9 => h9) rfl hin rfl (tyX11_ok 3 (by decide)) rfl rfl (Nat.le_of_ble_eq_true rfl) dX11_init_49 (fun H locs hP hD hS => ?_)
  refine va_cv hP hD (ws' := [(h0, .inr (11, [.ref q1, .ref q15, .ref q18, .ref q33, .null, .null, .null, .null, .int 0, .int 0])), (q1, .inr (9, [.ref a_2, .ref a_3, .ref a_4, .ref a_5, .ref a_6, .int 0, .int 0, .int 0, .int 0, .int 0, .int 0, .long 0])), (a_2, .inl (k_7, 4000, .inl (fun _ => 0))), (a_3, .inl (k_8, 28, .inr (.inl (gk_12)))), (a_4, .inl (k_9, 4001, .inl (fun _ => 0))), (a_5, .inl (k_10, 4001, .inl (fun _ => 0))), (a_6, .inl (k_11, 4001, .inr (.inl (fun _ => 0)))), (q15, .inr (1, [.ref q1, .null, .null, .int 0, .int 0, .long 0, .int 0, .int 0, .int 0])), (q18, .inr (2, [.ref a_19, .ref a_20, .ref a_21, .ref a_22, .ref a_23, .ref a_24, .null, .int 0])), (a_19, .inl (k_25, 100, .inl (fun _ => 0))), (a_20, .inl (k_26, 100, .inl (fun _ => 0))), (a_21, .inl (k_27, 100, .inl (fun _ => 0))), (a_22, .inl (k_28, 2400, .inl (fun _ => 0))), (a_23, .inl (k_29, 24, .inl (fun _ => 0))), (a_24, .inl (k_30, 24, .inl (fun _ => 0))), (q33, .inr (8, [.ref a_34, .ref a_35, .ref a_36, .ref a_37, .ref a_38, .ref a_39, .ref a_40, .ref a_41, .ref a_42, .ref a_43, .ref a_44, .ref a_45, .int 1, .int 0, .int 0, .int 0])), (a_34, .inl (k_46, 40, .inl (fun _ => 0))), (a_35, .inl (k_47, 40, .inl (fun _ => 0))), (a_36, .inl (k_48, 40, .inl (upd (fun _ => 0) 0 1))), (a_37, .inl (k_49, 40, .inl (fun _ => 0))), (a_38, .inl (k_50, 960, .inl (g_58))), (a_39, .inl (k_51, 300, .inl (fun _ => 0))), (a_40, .inl (k_52, 300, .inl (fun _ => 0))), (a_41, .inl (k_53, 300, .inl (fun _ => 0))), (a_42, .inl (k_54, 300, .inl (fun _ => 0))), (a_43, .inl (k_55, 2400, .inl (fun _ => 0))), (a_44, .inl (k_56, 512, .inl (fun _ => 0))), (a_45, .inl (k_57, 512, .inl (fun _ => 0)))]) rfl (fun hP hD => ?_)
  refine lv_aload_n hx hb dX11_init_52 rfl (lv_at hl 0 rfl) ?_
  refine va_new (ci := 7) (fs := [.null, .null, .null, .null, .null, .int 0, .int 0, .int 0, .int 0, .int 0]) (C := RX7) (T := TX7) (N := 10) hx hb hg inX7 tyX7 tyX7_ok hown (hg _ w429) (hg _ w430) (hg _ w166) hK hP hD hS hA rfl nfX7 (Nat.le_of_ble_eq_true rfl) (Nat.le_of_ble_eq_true rfl) dX11_init_53 (fun q61 H hP hD hS => ?_)
  refine va_cv hP hD (ws' := [(h0, .inr (11, [.ref q1, .ref q15, .ref q18, .ref q33, .null, .null, .null, .null, .int 0, .int 0])), (q1, .inr (9, [.ref a_2, .ref a_3, .ref a_4, .ref a_5, .ref a_6, .int 0, .int 0, .int 0, .int 0, .int 0, .int 0, .long 0])), (a_2, .inl (k_7, 4000, .inl (fun _ => 0))), (a_3, .inl (k_8, 28, .inr (.inl (gk_12)))), (a_4, .inl (k_9, 4001, .inl (fun _ => 0))), (a_5, .inl (k_10, 4001, .inl (fun _ => 0))), (a_6, .inl (k_11, 4001, .inr (.inl (fun _ => 0)))), (q15, .inr (1, [.ref q1, .null, .null, .int 0, .int 0, .long 0, .int 0, .int 0, .int 0])), (q18, .inr (2, [.ref a_19, .ref a_20, .ref a_21, .ref a_22, .ref a_23, .ref a_24, .null, .int 0])), (a_19, .inl (k_25, 100, .inl (fun _ => 0))), (a_20, .inl (k_26, 100, .inl (fun _ => 0))), (a_21, .inl (k_27, 100, .inl (fun _ => 0))), (a_22, .inl (k_28, 2400, .inl (fun _ => 0))), (a_23, .inl (k_29, 24, .inl (fun _ => 0))), (a_24, .inl (k_30, 24, .inl (fun _ => 0))), (q33, .inr (8, [.ref a_34, .ref a_35, .ref a_36, .ref a_37, .ref a_38, .ref a_39, .ref a_40, .ref a_41, .ref a_42, .ref a_43, .ref a_44, .ref a_45, .int 1, .int 0, .int 0, .int 0])), (a_34, .inl (k_46, 40, .inl (fun _ => 0))), (a_35, .inl (k_47, 40, .inl (fun _ => 0))), (a_36, .inl (k_48, 40, .inl (upd (fun _ => 0) 0 1))), (a_37, .inl (k_49, 40, .inl (fun _ => 0))), (a_38, .inl (k_50, 960, .inl (g_58))), (a_39, .inl (k_51, 300, .inl (fun _ => 0))), (a_40, .inl (k_52, 300, .inl (fun _ => 0))), (a_41, .inl (k_53, 300, .inl (fun _ => 0))), (a_42, .inl (k_54, 300, .inl (fun _ => 0))), (a_43, .inl (k_55, 2400, .inl (fun _ => 0))), (a_44, .inl (k_56, 512, .inl (fun _ => 0))), (a_45, .inl (k_57, 512, .inl (fun _ => 0))), (q61, .inr (7, [.null, .null, .null, .null, .null, .int 0, .int 0, .int 0, .int 0, .int 0]))]) rfl (fun hP hD => ?_)
  refine lv_dup hx hb dX11_init_56 rfl ?_
  refine g_void (wr := [(h0, .inr (11, [.ref q1, .ref q15, .ref q18, .ref q33, .null, .null, .null, .null, .int 0, .int 0])), (q1, .inr (9, [.ref a_2, .ref a_3, .ref a_4, .ref a_5, .ref a_6, .int 0, .int 0, .int 0, .int 0, .int 0, .int 0, .long 0])), (a_2, .inl (k_7, 4000, .inl (fun _ => 0))), (a_3, .inl (k_8, 28, .inr (.inl (gk_12)))), (a_4, .inl (k_9, 4001, .inl (fun _ => 0))), (a_5, .inl (k_10, 4001, .inl (fun _ => 0))), (a_6, .inl (k_11, 4001, .inr (.inl (fun _ => 0)))), (q15, .inr (1, [.ref q1, .null, .null, .int 0, .int 0, .long 0, .int 0, .int 0, .int 0])), (q18, .inr (2, [.ref a_19, .ref a_20, .ref a_21, .ref a_22, .ref a_23, .ref a_24, .null, .int 0])), (a_19, .inl (k_25, 100, .inl (fun _ => 0))), (a_20, .inl (k_26, 100, .inl (fun _ => 0))), (a_21, .inl (k_27, 100, .inl (fun _ => 0))), (a_22, .inl (k_28, 2400, .inl (fun _ => 0))), (a_23, .inl (k_29, 24, .inl (fun _ => 0))), (a_24, .inl (k_30, 24, .inl (fun _ => 0))), (q33, .inr (8, [.ref a_34, .ref a_35, .ref a_36, .ref a_37, .ref a_38, .ref a_39, .ref a_40, .ref a_41, .ref a_42, .ref a_43, .ref a_44, .ref a_45, .int 1, .int 0, .int 0, .int 0])), (a_34, .inl (k_46, 40, .inl (fun _ => 0))), (a_35, .inl (k_47, 40, .inl (fun _ => 0))), (a_36, .inl (k_48, 40, .inl (upd (fun _ => 0) 0 1))), (a_37, .inl (k_49, 40, .inl (fun _ => 0))), (a_38, .inl (k_50, 960, .inl (g_58))), (a_39, .inl (k_51, 300, .inl (fun _ => 0))), (a_40, .inl (k_52, 300, .inl (fun _ => 0))), (a_41, .inl (k_53, 300, .inl (fun _ => 0))), (a_42, .inl (k_54, 300, .inl (fun _ => 0))), (a_43, .inl (k_55, 2400, .inl (fun _ => 0))), (a_44, .inl (k_56, 512, .inl (fun _ => 0))), (a_45, .inl (k_57, 512, .inl (fun _ => 0)))]) (tr := [(k_7, .byte), (k_8, .long), (k_9, .int), (k_10, .int), (k_11, .long), (k_25, .int), (k_26, .int), (k_27, .int), (k_28, .int), (k_29, .int), (k_30, .int), (k_46, .int), (k_47, .int), (k_48, .boolean), (k_49, .int), (k_50, .int), (k_51, .int), (k_52, .int), (k_53, .int), (k_54, .int), (k_55, .int), (k_56, .int), (k_57, .int)]) (g_runIN (As := []) (rest := [.ref q61, .ref h0]) (wc := [(q61, .inr (7, [.null, .null, .null, .null, .null, .int 0, .int 0, .int 0, .int 0, .int 0]))]) (tc := []) hx hb hml hown hg gw_self hP hD hK hS hA hnw hgk [28] [] (by decide) rfl rfl (c_Notes_init l D ks H.size q61) n431 w432 w166 w433 rfl hdS_yX7_init ⟨Nat.le_of_ble_eq_true rfl, Nat.le_of_ble_eq_true rfl⟩ rfl hl.1 rfl (Nat.le_of_ble_eq_true rfl) dX11_init_57 ⟨Nat.le_of_ble_eq_true rfl, Nat.le_of_ble_eq_true rfl⟩) hP hD hK hS hA [28] [0, 1, 2, 3, 4, 5, 6, 7, 8, 9, 10, 11, 12, 13, 14, 15, 16, 17, 18, 19, 20, 21, 22, 23, 24, 25, 26, 27] [0, 1, 2, 3, 4, 5, 6, 7, 8, 9, 10, 11, 12, 13, 14, 15, 16, 17, 18, 19, 20, 21, 22] rfl rfl (by decide) (by decide) rfl (fun u73 H locs hw72 hP hD hK hS => ?_)
  obtain ⟨a_62, a_63, a_64, a_65, a_66, k_67, k_68, k_69, k_70, k_71⟩ := u73
  refine va_cv hP hD (ws' := [(h0, .inr (11, [.ref q1, .ref q15, .ref q18, .ref q33, .null, .null, .null, .null, .int 0, .int 0])), (q1, .inr (9, [.ref a_2, .ref a_3, .ref a_4, .ref a_5, .ref a_6, .int 0, .int 0, .int 0, .int 0, .int 0, .int 0, .long 0])), (a_2, .inl (k_7, 4000, .inl (fun _ => 0))), (a_3, .inl (k_8, 28, .inr (.inl (gk_12)))), (a_4, .inl (k_9, 4001, .inl (fun _ => 0))), (a_5, .inl (k_10, 4001, .inl (fun _ => 0))), (a_6, .inl (k_11, 4001, .inr (.inl (fun _ => 0)))), (q15, .inr (1, [.ref q1, .null, .null, .int 0, .int 0, .long 0, .int 0, .int 0, .int 0])), (q18, .inr (2, [.ref a_19, .ref a_20, .ref a_21, .ref a_22, .ref a_23, .ref a_24, .null, .int 0])), (a_19, .inl (k_25, 100, .inl (fun _ => 0))), (a_20, .inl (k_26, 100, .inl (fun _ => 0))), (a_21, .inl (k_27, 100, .inl (fun _ => 0))), (a_22, .inl (k_28, 2400, .inl (fun _ => 0))), (a_23, .inl (k_29, 24, .inl (fun _ => 0))), (a_24, .inl (k_30, 24, .inl (fun _ => 0))), (q33, .inr (8, [.ref a_34, .ref a_35, .ref a_36, .ref a_37, .ref a_38, .ref a_39, .ref a_40, .ref a_41, .ref a_42, .ref a_43, .ref a_44, .ref a_45, .int 1, .int 0, .int 0, .int 0])), (a_34, .inl (k_46, 40, .inl (fun _ => 0))), (a_35, .inl (k_47, 40, .inl (fun _ => 0))), (a_36, .inl (k_48, 40, .inl (upd (fun _ => 0) 0 1))), (a_37, .inl (k_49, 40, .inl (fun _ => 0))), (a_38, .inl (k_50, 960, .inl (g_58))), (a_39, .inl (k_51, 300, .inl (fun _ => 0))), (a_40, .inl (k_52, 300, .inl (fun _ => 0))), (a_41, .inl (k_53, 300, .inl (fun _ => 0))), (a_42, .inl (k_54, 300, .inl (fun _ => 0))), (a_43, .inl (k_55, 2400, .inl (fun _ => 0))), (a_44, .inl (k_56, 512, .inl (fun _ => 0))), (a_45, .inl (k_57, 512, .inl (fun _ => 0))), (q61, .inr (7, [.ref a_62, .ref a_63, .ref a_64, .ref a_65, .ref a_66, .int 0, .int 0, .int 0, .int 0, .int 0])), (a_62, .inl (k_67, 100, .inl (fun _ => 0))), (a_63, .inl (k_68, 100, .inl (fun _ => 0))), (a_64, .inl (k_69, 100, .inl (fun _ => 0))), (a_65, .inl (k_70, 300, .inl (fun _ => 0))), (a_66, .inl (k_71, 300, .inl (fun _ => 0)))]) rfl (fun hP hD => ?_)
  have hK : va_K D vwCl [(k_7, .byte), (k_8, .long), (k_9, .int), (k_10, .int), (k_11, .long), (k_25, .int), (k_26, .int), (k_27, .int), (k_28, .int), (k_29, .int), (k_30, .int), (k_46, .int), (k_47, .int), (k_48, .boolean), (k_49, .int), (k_50, .int), (k_51, .int), (k_52, .int), (k_53, .int), (k_54, .int), (k_55, .int), (k_56, .int), (k_57, .int), (k_67, .int), (k_68, .int), (k_69, .int), (k_70, .int), (k_71, .int)] s := hK
  refine va_putF (D := D) (ci := 11) (v := .ref q61) (ty := tyX11 4) (C := RX11) (T := TX11) (N := 10) hx hb hg inX11 tyX11 tyX11_ok nmX11 hown hK hP hD hS 0 rfl rfl 4 (by decide) (hg _ w719) (fun _ h9 => h9) rfl hin rfl (tyX11_ok 4 (by decide)) rfl rfl (Nat.le_of_ble_eq_true rfl) dX11_init_60 (fun H locs hP hD hS => ?_)
  refine va_cv hP hD (ws' := [(h0, .inr (11, [.ref q1, .ref q15, .ref q18, .ref q33, .ref q61, .null, .null, .null, .int 0, .int 0])), (q1, .inr (9, [.ref a_2, .ref a_3, .ref a_4, .ref a_5, .ref a_6, .int 0, .int 0, .int 0, .int 0, .int 0, .int 0, .long 0])), (a_2, .inl (k_7, 4000, .inl (fun _ => 0))), (a_3, .inl (k_8, 28, .inr (.inl (gk_12)))), (a_4, .inl (k_9, 4001, .inl (fun _ => 0))), (a_5, .inl (k_10, 4001, .inl (fun _ => 0))), (a_6, .inl (k_11, 4001, .inr (.inl (fun _ => 0)))), (q15, .inr (1, [.ref q1, .null, .null, .int 0, .int 0, .long 0, .int 0, .int 0, .int 0])), (q18, .inr (2, [.ref a_19, .ref a_20, .ref a_21, .ref a_22, .ref a_23, .ref a_24, .null, .int 0])), (a_19, .inl (k_25, 100, .inl (fun _ => 0))), (a_20, .inl (k_26, 100, .inl (fun _ => 0))), (a_21, .inl (k_27, 100, .inl (fun _ => 0))), (a_22, .inl (k_28, 2400, .inl (fun _ => 0))), (a_23, .inl (k_29, 24, .inl (fun _ => 0))), (a_24, .inl (k_30, 24, .inl (fun _ => 0))), (q33, .inr (8, [.ref a_34, .ref a_35, .ref a_36, .ref a_37, .ref a_38, .ref a_39, .ref a_40, .ref a_41, .ref a_42, .ref a_43, .ref a_44, .ref a_45, .int 1, .int 0, .int 0, .int 0])), (a_34, .inl (k_46, 40, .inl (fun _ => 0))), (a_35, .inl (k_47, 40, .inl (fun _ => 0))), (a_36, .inl (k_48, 40, .inl (upd (fun _ => 0) 0 1))), (a_37, .inl (k_49, 40, .inl (fun _ => 0))), (a_38, .inl (k_50, 960, .inl (g_58))), (a_39, .inl (k_51, 300, .inl (fun _ => 0))), (a_40, .inl (k_52, 300, .inl (fun _ => 0))), (a_41, .inl (k_53, 300, .inl (fun _ => 0))), (a_42, .inl (k_54, 300, .inl (fun _ => 0))), (a_43, .inl (k_55, 2400, .inl (fun _ => 0))), (a_44, .inl (k_56, 512, .inl (fun _ => 0))), (a_45, .inl (k_57, 512, .inl (fun _ => 0))), (q61, .inr (7, [.ref a_62, .ref a_63, .ref a_64, .ref a_65, .ref a_66, .int 0, .int 0, .int 0, .int 0, .int 0])), (a_62, .inl (k_67, 100, .inl (fun _ => 0))), (a_63, .inl (k_68, 100, .inl (fun _ => 0))), (a_64, .inl (k_69, 100, .inl (fun _ => 0))), (a_65, .inl (k_70, 300, .inl (fun _ => 0))), (a_66, .inl (k_71, 300, .inl (fun _ => 0)))]) rfl (fun hP hD => ?_)
  refine lv_aload_n hx hb dX11_init_63 rfl (lv_at hl 0 rfl) ?_
  refine va_new (ci := 0) (fs := [.null, .null, .null, .null, .null, .null, .null, .null, .null, .null, .null, .int 0, .int 0]) (C := RX0) (T := TX0) (N := 13) hx hb hg inX0 tyX0 tyX0_ok hown (hg _ w467) (hg _ w468) (hg _ w167) hK hP hD hS hA rfl nfX0 (Nat.le_of_ble_eq_true rfl) (Nat.le_of_ble_eq_true rfl) dX11_init_64 (fun q74 H hP hD hS => ?_)
  refine va_cv hP hD (ws' := [(h0, .inr (11, [.ref q1, .ref q15, .ref q18, .ref q33, .ref q61, .null, .null, .null, .int 0, .int 0])), (q1, .inr (9, [.ref a_2, .ref a_3, .ref a_4, .ref a_5, .ref a_6, .int 0, .int 0, .int 0, .int 0, .int 0, .int 0, .long 0])), (a_2, .inl (k_7, 4000, .inl (fun _ => 0))), (a_3, .inl (k_8, 28, .inr (.inl (gk_12)))), (a_4, .inl (k_9, 4001, .inl (fun _ => 0))), (a_5, .inl (k_10, 4001, .inl (fun _ => 0))), (a_6, .inl (k_11, 4001, .inr (.inl (fun _ => 0)))), (q15, .inr (1, [.ref q1, .null, .null, .int 0, .int 0, .long 0, .int 0, .int 0, .int 0])), (q18, .inr (2, [.ref a_19, .ref a_20, .ref a_21, .ref a_22, .ref a_23, .ref a_24, .null, .int 0])), (a_19, .inl (k_25, 100, .inl (fun _ => 0))), (a_20, .inl (k_26, 100, .inl (fun _ => 0))), (a_21, .inl (k_27, 100, .inl (fun _ => 0))), (a_22, .inl (k_28, 2400, .inl (fun _ => 0))), (a_23, .inl (k_29, 24, .inl (fun _ => 0))), (a_24, .inl (k_30, 24, .inl (fun _ => 0))), (q33, .inr (8, [.ref a_34, .ref a_35, .ref a_36, .ref a_37, .ref a_38, .ref a_39, .ref a_40, .ref a_41, .ref a_42, .ref a_43, .ref a_44, .ref a_45, .int 1, .int 0, .int 0, .int 0])), (a_34, .inl (k_46, 40, .inl (fun _ => 0))), (a_35, .inl (k_47, 40, .inl (fun _ => 0))), (a_36, .inl (k_48, 40, .inl (upd (fun _ => 0) 0 1))), (a_37, .inl (k_49, 40, .inl (fun _ => 0))), (a_38, .inl (k_50, 960, .inl (g_58))), (a_39, .inl (k_51, 300, .inl (fun _ => 0))), (a_40, .inl (k_52, 300, .inl (fun _ => 0))), (a_41, .inl (k_53, 300, .inl (fun _ => 0))), (a_42, .inl (k_54, 300, .inl (fun _ => 0))), (a_43, .inl (k_55, 2400, .inl (fun _ => 0))), (a_44, .inl (k_56, 512, .inl (fun _ => 0))), (a_45, .inl (k_57, 512, .inl (fun _ => 0))), (q61, .inr (7, [.ref a_62, .ref a_63, .ref a_64, .ref a_65, .ref a_66, .int 0, .int 0, .int 0, .int 0, .int 0])), (a_62, .inl (k_67, 100, .inl (fun _ => 0))), (a_63, .inl (k_68, 100, .inl (fun _ => 0))), (a_64, .inl (k_69, 100, .inl (fun _ => 0))), (a_65, .inl (k_70, 300, .inl (fun _ => 0))), (a_66, .inl (k_71, 300, .inl (fun _ => 0))), (q74, .inr (0, [.null, .null, .null, .null, .null, .null, .null, .null, .null, .null, .null, .int 0, .int 0]))]) rfl (fun hP hD => ?_)
  refine lv_dup hx hb dX11_init_67 rfl ?_
  refine va_cv hP hD (ws' := (HAppend.hAppend (α := va_W) (β := va_W) (γ := va_W) [(h0, .inr (11, [.ref q1, .ref q15, .ref q18, .ref q33, .ref q61, .null, .null, .null, .int 0, .int 0])), (q1, .inr (9, [.ref a_2, .ref a_3, .ref a_4, .ref a_5, .ref a_6, .int 0, .int 0, .int 0, .int 0, .int 0, .int 0, .long 0])), (a_2, .inl (k_7, 4000, .inl (fun _ => 0))), (a_3, .inl (k_8, 28, .inr (.inl (gk_12)))), (a_4, .inl (k_9, 4001, .inl (fun _ => 0))), (a_5, .inl (k_10, 4001, .inl (fun _ => 0))), (a_6, .inl (k_11, 4001, .inr (.inl (fun _ => 0)))), (q15, .inr (1, [.ref q1, .null, .null, .int 0, .int 0, .long 0, .int 0, .int 0, .int 0])), (q18, .inr (2, [.ref a_19, .ref a_20, .ref a_21, .ref a_22, .ref a_23, .ref a_24, .null, .int 0])), (a_19, .inl (k_25, 100, .inl (fun _ => 0))), (a_20, .inl (k_26, 100, .inl (fun _ => 0))), (a_21, .inl (k_27, 100, .inl (fun _ => 0))), (a_22, .inl (k_28, 2400, .inl (fun _ => 0))), (a_23, .inl (k_29, 24, .inl (fun _ => 0))), (a_24, .inl (k_30, 24, .inl (fun _ => 0))), (q33, .inr (8, [.ref a_34, .ref a_35, .ref a_36, .ref a_37, .ref a_38, .ref a_39, .ref a_40, .ref a_41, .ref a_42, .ref a_43, .ref a_44, .ref a_45, .int 1, .int 0, .int 0, .int 0])), (a_34, .inl (k_46, 40, .inl (fun _ => 0))), (a_35, .inl (k_47, 40, .inl (fun _ => 0))), (a_36, .inl (k_48, 40, .inl (upd (fun _ => 0) 0 1))), (a_37, .inl (k_49, 40, .inl (fun _ => 0))), (a_38, .inl (k_50, 960, .inl (g_58))), (a_39, .inl (k_51, 300, .inl (fun _ => 0))), (a_40, .inl (k_52, 300, .inl (fun _ => 0))), (a_41, .inl (k_53, 300, .inl (fun _ => 0))), (a_42, .inl (k_54, 300, .inl (fun _ => 0))), (a_43, .inl (k_55, 2400, .inl (fun _ => 0))), (a_44, .inl (k_56, 512, .inl (fun _ => 0))), (a_45, .inl (k_57, 512, .inl (fun _ => 0))), (q61, .inr (7, [.ref a_62, .ref a_63, .ref a_64, .ref a_65, .ref a_66, .int 0, .int 0, .int 0, .int 0, .int 0])), (a_62, .inl (k_67, 100, .inl (fun _ => 0))), (a_63, .inl (k_68, 100, .inl (fun _ => 0))), (a_64, .inl (k_69, 100, .inl (fun _ => 0))), (a_65, .inl (k_70, 300, .inl (fun _ => 0))), (a_66, .inl (k_71, 300, .inl (fun _ => 0))), (q74, .inr (0, [.null, .null, .null, .null, .null, .null, .null, .null, .null, .null, .null, .int 0, .int 0]))] ([] : va_W))) rfl (fun hP hD => ?_)
  have hK : va_K D vwCl (HAppend.hAppend (α := List (ClassId × FieldType)) (β := List (ClassId × FieldType)) (γ := List (ClassId × FieldType)) [(k_7, .byte), (k_8, .long), (k_9, .int), (k_10, .int), (k_11, .long), (k_25, .int), (k_26, .int), (k_27, .int), (k_28, .int), (k_29, .int), (k_30, .int), (k_46, .int), (k_47, .int), (k_48, .boolean), (k_49, .int), (k_50, .int), (k_51, .int), (k_52, .int), (k_53, .int), (k_54, .int), (k_55, .int), (k_56, .int), (k_57, .int), (k_67, .int), (k_68, .int), (k_69, .int), (k_70, .int), (k_71, .int)] ([] : List (ClassId × FieldType))) s := hK
  refine gR_void (wr := [(h0, .inr (11, [.ref q1, .ref q15, .ref q18, .ref q33, .ref q61, .null, .null, .null, .int 0, .int 0])), (q1, .inr (9, [.ref a_2, .ref a_3, .ref a_4, .ref a_5, .ref a_6, .int 0, .int 0, .int 0, .int 0, .int 0, .int 0, .long 0])), (a_2, .inl (k_7, 4000, .inl (fun _ => 0))), (a_3, .inl (k_8, 28, .inr (.inl (gk_12)))), (a_4, .inl (k_9, 4001, .inl (fun _ => 0))), (a_5, .inl (k_10, 4001, .inl (fun _ => 0))), (a_6, .inl (k_11, 4001, .inr (.inl (fun _ => 0)))), (q15, .inr (1, [.ref q1, .null, .null, .int 0, .int 0, .long 0, .int 0, .int 0, .int 0])), (q18, .inr (2, [.ref a_19, .ref a_20, .ref a_21, .ref a_22, .ref a_23, .ref a_24, .null, .int 0])), (a_19, .inl (k_25, 100, .inl (fun _ => 0))), (a_20, .inl (k_26, 100, .inl (fun _ => 0))), (a_21, .inl (k_27, 100, .inl (fun _ => 0))), (a_22, .inl (k_28, 2400, .inl (fun _ => 0))), (a_23, .inl (k_29, 24, .inl (fun _ => 0))), (a_24, .inl (k_30, 24, .inl (fun _ => 0))), (q33, .inr (8, [.ref a_34, .ref a_35, .ref a_36, .ref a_37, .ref a_38, .ref a_39, .ref a_40, .ref a_41, .ref a_42, .ref a_43, .ref a_44, .ref a_45, .int 1, .int 0, .int 0, .int 0])), (a_34, .inl (k_46, 40, .inl (fun _ => 0))), (a_35, .inl (k_47, 40, .inl (fun _ => 0))), (a_36, .inl (k_48, 40, .inl (upd (fun _ => 0) 0 1))), (a_37, .inl (k_49, 40, .inl (fun _ => 0))), (a_38, .inl (k_50, 960, .inl (g_58))), (a_39, .inl (k_51, 300, .inl (fun _ => 0))), (a_40, .inl (k_52, 300, .inl (fun _ => 0))), (a_41, .inl (k_53, 300, .inl (fun _ => 0))), (a_42, .inl (k_54, 300, .inl (fun _ => 0))), (a_43, .inl (k_55, 2400, .inl (fun _ => 0))), (a_44, .inl (k_56, 512, .inl (fun _ => 0))), (a_45, .inl (k_57, 512, .inl (fun _ => 0))), (q61, .inr (7, [.ref a_62, .ref a_63, .ref a_64, .ref a_65, .ref a_66, .int 0, .int 0, .int 0, .int 0, .int 0])), (a_62, .inl (k_67, 100, .inl (fun _ => 0))), (a_63, .inl (k_68, 100, .inl (fun _ => 0))), (a_64, .inl (k_69, 100, .inl (fun _ => 0))), (a_65, .inl (k_70, 300, .inl (fun _ => 0))), (a_66, .inl (k_71, 300, .inl (fun _ => 0)))]) (tr := [(k_7, .byte), (k_8, .long), (k_9, .int), (k_10, .int), (k_11, .long), (k_25, .int), (k_26, .int), (k_27, .int), (k_28, .int), (k_29, .int), (k_30, .int), (k_46, .int), (k_47, .int), (k_48, .boolean), (k_49, .int), (k_50, .int), (k_51, .int), (k_52, .int), (k_53, .int), (k_54, .int), (k_55, .int), (k_56, .int), (k_57, .int), (k_67, .int), (k_68, .int), (k_69, .int), (k_70, .int), (k_71, .int)]) (g_runI (As := []) (rest := [.ref q74, .ref h0]) (wc := [(q74, .inr (0, [.null, .null, .null, .null, .null, .null, .null, .null, .null, .null, .null, .int 0, .int 0]))]) (tc := []) hx hb hml hown hg gw_self (va_Pl hP) (va_Dl hD) (va_Kl hK) hS hA hnw hgk [34] [] (by decide) rfl rfl (c_Book_init l D ks H.size q74) w469 w470 w167 w471 rfl hdS_yX0_init ⟨Nat.le_of_ble_eq_true rfl, Nat.le_of_ble_eq_true rfl⟩ rfl hl.1 rfl (Nat.le_of_ble_eq_true rfl) dX11_init_68 ⟨Nat.le_of_ble_eq_true rfl, Nat.le_of_ble_eq_true rfl⟩) hP hD hK hS hA [34] [0, 1, 2, 3, 4, 5, 6, 7, 8, 9, 10, 11, 12, 13, 14, 15, 16, 17, 18, 19, 20, 21, 22, 23, 24, 25, 26, 27, 28, 29, 30, 31, 32, 33] [0, 1, 2, 3, 4, 5, 6, 7, 8, 9, 10, 11, 12, 13, 14, 15, 16, 17, 18, 19, 20, 21, 22, 23, 24, 25, 26, 27] rfl rfl (by decide) (by decide) rfl (fun u75 H locs hw76 hP hD hK hS => ?_)
  obtain ⟨B77, rfl⟩ : ∃ z : BU, z = u75 := ⟨_, rfl⟩
  have hP : va_P D vwCl (HAppend.hAppend (α := va_W) (β := va_W) (γ := va_W) [(h0, .inr (11, [.ref q1, .ref q15, .ref q18, .ref q33, .ref q61, .null, .null, .null, .int 0, .int 0])), (q1, .inr (9, [.ref a_2, .ref a_3, .ref a_4, .ref a_5, .ref a_6, .int 0, .int 0, .int 0, .int 0, .int 0, .int 0, .long 0])), (a_2, .inl (k_7, 4000, .inl (fun _ => 0))), (a_3, .inl (k_8, 28, .inr (.inl (gk_12)))), (a_4, .inl (k_9, 4001, .inl (fun _ => 0))), (a_5, .inl (k_10, 4001, .inl (fun _ => 0))), (a_6, .inl (k_11, 4001, .inr (.inl (fun _ => 0)))), (q15, .inr (1, [.ref q1, .null, .null, .int 0, .int 0, .long 0, .int 0, .int 0, .int 0])), (q18, .inr (2, [.ref a_19, .ref a_20, .ref a_21, .ref a_22, .ref a_23, .ref a_24, .null, .int 0])), (a_19, .inl (k_25, 100, .inl (fun _ => 0))), (a_20, .inl (k_26, 100, .inl (fun _ => 0))), (a_21, .inl (k_27, 100, .inl (fun _ => 0))), (a_22, .inl (k_28, 2400, .inl (fun _ => 0))), (a_23, .inl (k_29, 24, .inl (fun _ => 0))), (a_24, .inl (k_30, 24, .inl (fun _ => 0))), (q33, .inr (8, [.ref a_34, .ref a_35, .ref a_36, .ref a_37, .ref a_38, .ref a_39, .ref a_40, .ref a_41, .ref a_42, .ref a_43, .ref a_44, .ref a_45, .int 1, .int 0, .int 0, .int 0])), (a_34, .inl (k_46, 40, .inl (fun _ => 0))), (a_35, .inl (k_47, 40, .inl (fun _ => 0))), (a_36, .inl (k_48, 40, .inl (upd (fun _ => 0) 0 1))), (a_37, .inl (k_49, 40, .inl (fun _ => 0))), (a_38, .inl (k_50, 960, .inl (g_58))), (a_39, .inl (k_51, 300, .inl (fun _ => 0))), (a_40, .inl (k_52, 300, .inl (fun _ => 0))), (a_41, .inl (k_53, 300, .inl (fun _ => 0))), (a_42, .inl (k_54, 300, .inl (fun _ => 0))), (a_43, .inl (k_55, 2400, .inl (fun _ => 0))), (a_44, .inl (k_56, 512, .inl (fun _ => 0))), (a_45, .inl (k_57, 512, .inl (fun _ => 0))), (q61, .inr (7, [.ref a_62, .ref a_63, .ref a_64, .ref a_65, .ref a_66, .int 0, .int 0, .int 0, .int 0, .int 0])), (a_62, .inl (k_67, 100, .inl (fun _ => 0))), (a_63, .inl (k_68, 100, .inl (fun _ => 0))), (a_64, .inl (k_69, 100, .inl (fun _ => 0))), (a_65, .inl (k_70, 300, .inl (fun _ => 0))), (a_66, .inl (k_71, 300, .inl (fun _ => 0)))] (bkw q74 B77 ++ ([] : va_W))) H := by rw [← List.append_assoc]; exact hP
  have hD : va_D A (HAppend.hAppend (α := va_W) (β := va_W) (γ := va_W) [(h0, .inr (11, [.ref q1, .ref q15, .ref q18, .ref q33, .ref q61, .null, .null, .null, .int 0, .int 0])), (q1, .inr (9, [.ref a_2, .ref a_3, .ref a_4, .ref a_5, .ref a_6, .int 0, .int 0, .int 0, .int 0, .int 0, .int 0, .long 0])), (a_2, .inl (k_7, 4000, .inl (fun _ => 0))), (a_3, .inl (k_8, 28, .inr (.inl (gk_12)))), (a_4, .inl (k_9, 4001, .inl (fun _ => 0))), (a_5, .inl (k_10, 4001, .inl (fun _ => 0))), (a_6, .inl (k_11, 4001, .inr (.inl (fun _ => 0)))), (q15, .inr (1, [.ref q1, .null, .null, .int 0, .int 0, .long 0, .int 0, .int 0, .int 0])), (q18, .inr (2, [.ref a_19, .ref a_20, .ref a_21, .ref a_22, .ref a_23, .ref a_24, .null, .int 0])), (a_19, .inl (k_25, 100, .inl (fun _ => 0))), (a_20, .inl (k_26, 100, .inl (fun _ => 0))), (a_21, .inl (k_27, 100, .inl (fun _ => 0))), (a_22, .inl (k_28, 2400, .inl (fun _ => 0))), (a_23, .inl (k_29, 24, .inl (fun _ => 0))), (a_24, .inl (k_30, 24, .inl (fun _ => 0))), (q33, .inr (8, [.ref a_34, .ref a_35, .ref a_36, .ref a_37, .ref a_38, .ref a_39, .ref a_40, .ref a_41, .ref a_42, .ref a_43, .ref a_44, .ref a_45, .int 1, .int 0, .int 0, .int 0])), (a_34, .inl (k_46, 40, .inl (fun _ => 0))), (a_35, .inl (k_47, 40, .inl (fun _ => 0))), (a_36, .inl (k_48, 40, .inl (upd (fun _ => 0) 0 1))), (a_37, .inl (k_49, 40, .inl (fun _ => 0))), (a_38, .inl (k_50, 960, .inl (g_58))), (a_39, .inl (k_51, 300, .inl (fun _ => 0))), (a_40, .inl (k_52, 300, .inl (fun _ => 0))), (a_41, .inl (k_53, 300, .inl (fun _ => 0))), (a_42, .inl (k_54, 300, .inl (fun _ => 0))), (a_43, .inl (k_55, 2400, .inl (fun _ => 0))), (a_44, .inl (k_56, 512, .inl (fun _ => 0))), (a_45, .inl (k_57, 512, .inl (fun _ => 0))), (q61, .inr (7, [.ref a_62, .ref a_63, .ref a_64, .ref a_65, .ref a_66, .int 0, .int 0, .int 0, .int 0, .int 0])), (a_62, .inl (k_67, 100, .inl (fun _ => 0))), (a_63, .inl (k_68, 100, .inl (fun _ => 0))), (a_64, .inl (k_69, 100, .inl (fun _ => 0))), (a_65, .inl (k_70, 300, .inl (fun _ => 0))), (a_66, .inl (k_71, 300, .inl (fun _ => 0)))] (bkw q74 B77 ++ ([] : va_W))) := by rw [← List.append_assoc]; exact hD
  have hK : va_K D vwCl (HAppend.hAppend (α := List (ClassId × FieldType)) (β := List (ClassId × FieldType)) (γ := List (ClassId × FieldType)) [(k_7, .byte), (k_8, .long), (k_9, .int), (k_10, .int), (k_11, .long), (k_25, .int), (k_26, .int), (k_27, .int), (k_28, .int), (k_29, .int), (k_30, .int), (k_46, .int), (k_47, .int), (k_48, .boolean), (k_49, .int), (k_50, .int), (k_51, .int), (k_52, .int), (k_53, .int), (k_54, .int), (k_55, .int), (k_56, .int), (k_57, .int), (k_67, .int), (k_68, .int), (k_69, .int), (k_70, .int), (k_71, .int)] (bkt B77 ++ ([] : List (ClassId × FieldType)))) s := by rw [← List.append_assoc]; exact hK
  refine va_put (D := D) (ci := 11) (v := .ref q74) (ty := tyX11 6) (C := RX11) (T := TX11) (N := 10) hx hb hg inX11 tyX11 tyX11_ok nmX11 hown hK hP hD hS 0 rfl rfl 6 (by decide) (hg _ w721) (fun _ h9 => h9) rfl (tyX11_ok 6 (by decide)) rfl rfl (Nat.le_of_ble_eq_true rfl) dX11_init_71 (fun H locs hP hD hS => ?_)
  refine va_cv hP hD (ws' := (HAppend.hAppend (α := va_W) (β := va_W) (γ := va_W) [(h0, .inr (11, [.ref q1, .ref q15, .ref q18, .ref q33, .ref q61, .null, .ref q74, .null, .int 0, .int 0])), (q1, .inr (9, [.ref a_2, .ref a_3, .ref a_4, .ref a_5, .ref a_6, .int 0, .int 0, .int 0, .int 0, .int 0, .int 0, .long 0])), (a_2, .inl (k_7, 4000, .inl (fun _ => 0))), (a_3, .inl (k_8, 28, .inr (.inl (gk_12)))), (a_4, .inl (k_9, 4001, .inl (fun _ => 0))), (a_5, .inl (k_10, 4001, .inl (fun _ => 0))), (a_6, .inl (k_11, 4001, .inr (.inl (fun _ => 0)))), (q15, .inr (1, [.ref q1, .null, .null, .int 0, .int 0, .long 0, .int 0, .int 0, .int 0])), (q18, .inr (2, [.ref a_19, .ref a_20, .ref a_21, .ref a_22, .ref a_23, .ref a_24, .null, .int 0])), (a_19, .inl (k_25, 100, .inl (fun _ => 0))), (a_20, .inl (k_26, 100, .inl (fun _ => 0))), (a_21, .inl (k_27, 100, .inl (fun _ => 0))), (a_22, .inl (k_28, 2400, .inl (fun _ => 0))), (a_23, .inl (k_29, 24, .inl (fun _ => 0))), (a_24, .inl (k_30, 24, .inl (fun _ => 0))), (q33, .inr (8, [.ref a_34, .ref a_35, .ref a_36, .ref a_37, .ref a_38, .ref a_39, .ref a_40, .ref a_41, .ref a_42, .ref a_43, .ref a_44, .ref a_45, .int 1, .int 0, .int 0, .int 0])), (a_34, .inl (k_46, 40, .inl (fun _ => 0))), (a_35, .inl (k_47, 40, .inl (fun _ => 0))), (a_36, .inl (k_48, 40, .inl (upd (fun _ => 0) 0 1))), (a_37, .inl (k_49, 40, .inl (fun _ => 0))), (a_38, .inl (k_50, 960, .inl (g_58))), (a_39, .inl (k_51, 300, .inl (fun _ => 0))), (a_40, .inl (k_52, 300, .inl (fun _ => 0))), (a_41, .inl (k_53, 300, .inl (fun _ => 0))), (a_42, .inl (k_54, 300, .inl (fun _ => 0))), (a_43, .inl (k_55, 2400, .inl (fun _ => 0))), (a_44, .inl (k_56, 512, .inl (fun _ => 0))), (a_45, .inl (k_57, 512, .inl (fun _ => 0))), (q61, .inr (7, [.ref a_62, .ref a_63, .ref a_64, .ref a_65, .ref a_66, .int 0, .int 0, .int 0, .int 0, .int 0])), (a_62, .inl (k_67, 100, .inl (fun _ => 0))), (a_63, .inl (k_68, 100, .inl (fun _ => 0))), (a_64, .inl (k_69, 100, .inl (fun _ => 0))), (a_65, .inl (k_70, 300, .inl (fun _ => 0))), (a_66, .inl (k_71, 300, .inl (fun _ => 0)))] (bkw q74 B77 ++ ([] : va_W)))) rfl (fun hP hD => ?_)
  refine lv_aload_n hx hb dX11_init_74 rfl (lv_at hl 0 rfl) ?_
  refine va_new (ci := 0) (fs := [.null, .null, .null, .null, .null, .null, .null, .null, .null, .null, .null, .int 0, .int 0]) (C := RX0) (T := TX0) (N := 13) hx hb hg inX0 tyX0 tyX0_ok hown (hg _ w467) (hg _ w468) (hg _ w167) hK hP hD hS hA rfl nfX0 (Nat.le_of_ble_eq_true rfl) (Nat.le_of_ble_eq_true rfl) dX11_init_75 (fun q78 H hP hD hS => ?_)
  have hP : va_P D vwCl (HAppend.hAppend (α := va_W) (β := va_W) (γ := va_W) [(h0, .inr (11, [.ref q1, .ref q15, .ref q18, .ref q33, .ref q61, .null, .ref q74, .null, .int 0, .int 0])), (q1, .inr (9, [.ref a_2, .ref a_3, .ref a_4, .ref a_5, .ref a_6, .int 0, .int 0, .int 0, .int 0, .int 0, .int 0, .long 0])), (a_2, .inl (k_7, 4000, .inl (fun _ => 0))), (a_3, .inl (k_8, 28, .inr (.inl (gk_12)))), (a_4, .inl (k_9, 4001, .inl (fun _ => 0))), (a_5, .inl (k_10, 4001, .inl (fun _ => 0))), (a_6, .inl (k_11, 4001, .inr (.inl (fun _ => 0)))), (q15, .inr (1, [.ref q1, .null, .null, .int 0, .int 0, .long 0, .int 0, .int 0, .int 0])), (q18, .inr (2, [.ref a_19, .ref a_20, .ref a_21, .ref a_22, .ref a_23, .ref a_24, .null, .int 0])), (a_19, .inl (k_25, 100, .inl (fun _ => 0))), (a_20, .inl (k_26, 100, .inl (fun _ => 0))), (a_21, .inl (k_27, 100, .inl (fun _ => 0))), (a_22, .inl (k_28, 2400, .inl (fun _ => 0))), (a_23, .inl (k_29, 24, .inl (fun _ => 0))), (a_24, .inl (k_30, 24, .inl (fun _ => 0))), (q33, .inr (8, [.ref a_34, .ref a_35, .ref a_36, .ref a_37, .ref a_38, .ref a_39, .ref a_40, .ref a_41, .ref a_42, .ref a_43, .ref a_44, .ref a_45, .int 1, .int 0, .int 0, .int 0])), (a_34, .inl (k_46, 40, .inl (fun _ => 0))), (a_35, .inl (k_47, 40, .inl (fun _ => 0))), (a_36, .inl (k_48, 40, .inl (upd (fun _ => 0) 0 1))), (a_37, .inl (k_49, 40, .inl (fun _ => 0))), (a_38, .inl (k_50, 960, .inl (g_58))), (a_39, .inl (k_51, 300, .inl (fun _ => 0))), (a_40, .inl (k_52, 300, .inl (fun _ => 0))), (a_41, .inl (k_53, 300, .inl (fun _ => 0))), (a_42, .inl (k_54, 300, .inl (fun _ => 0))), (a_43, .inl (k_55, 2400, .inl (fun _ => 0))), (a_44, .inl (k_56, 512, .inl (fun _ => 0))), (a_45, .inl (k_57, 512, .inl (fun _ => 0))), (q61, .inr (7, [.ref a_62, .ref a_63, .ref a_64, .ref a_65, .ref a_66, .int 0, .int 0, .int 0, .int 0, .int 0])), (a_62, .inl (k_67, 100, .inl (fun _ => 0))), (a_63, .inl (k_68, 100, .inl (fun _ => 0))), (a_64, .inl (k_69, 100, .inl (fun _ => 0))), (a_65, .inl (k_70, 300, .inl (fun _ => 0))), (a_66, .inl (k_71, 300, .inl (fun _ => 0))), (q78, .inr (0, [.null, .null, .null, .null, .null, .null, .null, .null, .null, .null, .null, .int 0, .int 0]))] (bkw q74 B77 ++ ([] : va_W))) H := va_Prot hP
  have hD : va_D A (HAppend.hAppend (α := va_W) (β := va_W) (γ := va_W) [(h0, .inr (11, [.ref q1, .ref q15, .ref q18, .ref q33, .ref q61, .null, .ref q74, .null, .int 0, .int 0])), (q1, .inr (9, [.ref a_2, .ref a_3, .ref a_4, .ref a_5, .ref a_6, .int 0, .int 0, .int 0, .int 0, .int 0, .int 0, .long 0])), (a_2, .inl (k_7, 4000, .inl (fun _ => 0))), (a_3, .inl (k_8, 28, .inr (.inl (gk_12)))), (a_4, .inl (k_9, 4001, .inl (fun _ => 0))), (a_5, .inl (k_10, 4001, .inl (fun _ => 0))), (a_6, .inl (k_11, 4001, .inr (.inl (fun _ => 0)))), (q15, .inr (1, [.ref q1, .null, .null, .int 0, .int 0, .long 0, .int 0, .int 0, .int 0])), (q18, .inr (2, [.ref a_19, .ref a_20, .ref a_21, .ref a_22, .ref a_23, .ref a_24, .null, .int 0])), (a_19, .inl (k_25, 100, .inl (fun _ => 0))), (a_20, .inl (k_26, 100, .inl (fun _ => 0))), (a_21, .inl (k_27, 100, .inl (fun _ => 0))), (a_22, .inl (k_28, 2400, .inl (fun _ => 0))), (a_23, .inl (k_29, 24, .inl (fun _ => 0))), (a_24, .inl (k_30, 24, .inl (fun _ => 0))), (q33, .inr (8, [.ref a_34, .ref a_35, .ref a_36, .ref a_37, .ref a_38, .ref a_39, .ref a_40, .ref a_41, .ref a_42, .ref a_43, .ref a_44, .ref a_45, .int 1, .int 0, .int 0, .int 0])), (a_34, .inl (k_46, 40, .inl (fun _ => 0))), (a_35, .inl (k_47, 40, .inl (fun _ => 0))), (a_36, .inl (k_48, 40, .inl (upd (fun _ => 0) 0 1))), (a_37, .inl (k_49, 40, .inl (fun _ => 0))), (a_38, .inl (k_50, 960, .inl (g_58))), (a_39, .inl (k_51, 300, .inl (fun _ => 0))), (a_40, .inl (k_52, 300, .inl (fun _ => 0))), (a_41, .inl (k_53, 300, .inl (fun _ => 0))), (a_42, .inl (k_54, 300, .inl (fun _ => 0))), (a_43, .inl (k_55, 2400, .inl (fun _ => 0))), (a_44, .inl (k_56, 512, .inl (fun _ => 0))), (a_45, .inl (k_57, 512, .inl (fun _ => 0))), (q61, .inr (7, [.ref a_62, .ref a_63, .ref a_64, .ref a_65, .ref a_66, .int 0, .int 0, .int 0, .int 0, .int 0])), (a_62, .inl (k_67, 100, .inl (fun _ => 0))), (a_63, .inl (k_68, 100, .inl (fun _ => 0))), (a_64, .inl (k_69, 100, .inl (fun _ => 0))), (a_65, .inl (k_70, 300, .inl (fun _ => 0))), (a_66, .inl (k_71, 300, .inl (fun _ => 0))), (q78, .inr (0, [.null, .null, .null, .null, .null, .null, .null, .null, .null, .null, .null, .int 0, .int 0]))] (bkw q74 B77 ++ ([] : va_W))) := va_Drot hD
  refine lv_dup hx hb dX11_init_78 rfl ?_
  refine gR_void (wr := [(h0, .inr (11, [.ref q1, .ref q15, .ref q18, .ref q33, .ref q61, .null, .ref q74, .null, .int 0, .int 0])), (q1, .inr (9, [.ref a_2, .ref a_3, .ref a_4, .ref a_5, .ref a_6, .int 0, .int 0, .int 0, .int 0, .int 0, .int 0, .long 0])), (a_2, .inl (k_7, 4000, .inl (fun _ => 0))), (a_3, .inl (k_8, 28, .inr (.inl (gk_12)))), (a_4, .inl (k_9, 4001, .inl (fun _ => 0))), (a_5, .inl (k_10, 4001, .inl (fun _ => 0))), (a_6, .inl (k_11, 4001, .inr (.inl (fun _ => 0)))), (q15, .inr (1, [.ref q1, .null, .null, .int 0, .int 0, .long 0, .int 0, .int 0, .int 0])), (q18, .inr (2, [.ref a_19, .ref a_20, .ref a_21, .ref a_22, .ref a_23, .ref a_24, .null, .int 0])), (a_19, .inl (k_25, 100, .inl (fun _ => 0))), (a_20, .inl (k_26, 100, .inl (fun _ => 0))), (a_21, .inl (k_27, 100, .inl (fun _ => 0))), (a_22, .inl (k_28, 2400, .inl (fun _ => 0))), (a_23, .inl (k_29, 24, .inl (fun _ => 0))), (a_24, .inl (k_30, 24, .inl (fun _ => 0))), (q33, .inr (8, [.ref a_34, .ref a_35, .ref a_36, .ref a_37, .ref a_38, .ref a_39, .ref a_40, .ref a_41, .ref a_42, .ref a_43, .ref a_44, .ref a_45, .int 1, .int 0, .int 0, .int 0])), (a_34, .inl (k_46, 40, .inl (fun _ => 0))), (a_35, .inl (k_47, 40, .inl (fun _ => 0))), (a_36, .inl (k_48, 40, .inl (upd (fun _ => 0) 0 1))), (a_37, .inl (k_49, 40, .inl (fun _ => 0))), (a_38, .inl (k_50, 960, .inl (g_58))), (a_39, .inl (k_51, 300, .inl (fun _ => 0))), (a_40, .inl (k_52, 300, .inl (fun _ => 0))), (a_41, .inl (k_53, 300, .inl (fun _ => 0))), (a_42, .inl (k_54, 300, .inl (fun _ => 0))), (a_43, .inl (k_55, 2400, .inl (fun _ => 0))), (a_44, .inl (k_56, 512, .inl (fun _ => 0))), (a_45, .inl (k_57, 512, .inl (fun _ => 0))), (q61, .inr (7, [.ref a_62, .ref a_63, .ref a_64, .ref a_65, .ref a_66, .int 0, .int 0, .int 0, .int 0, .int 0])), (a_62, .inl (k_67, 100, .inl (fun _ => 0))), (a_63, .inl (k_68, 100, .inl (fun _ => 0))), (a_64, .inl (k_69, 100, .inl (fun _ => 0))), (a_65, .inl (k_70, 300, .inl (fun _ => 0))), (a_66, .inl (k_71, 300, .inl (fun _ => 0)))]) (tr := [(k_7, .byte), (k_8, .long), (k_9, .int), (k_10, .int), (k_11, .long), (k_25, .int), (k_26, .int), (k_27, .int), (k_28, .int), (k_29, .int), (k_30, .int), (k_46, .int), (k_47, .int), (k_48, .boolean), (k_49, .int), (k_50, .int), (k_51, .int), (k_52, .int), (k_53, .int), (k_54, .int), (k_55, .int), (k_56, .int), (k_57, .int), (k_67, .int), (k_68, .int), (k_69, .int), (k_70, .int), (k_71, .int)]) (g_runI (As := []) (rest := [.ref q78, .ref h0]) (wc := [(q78, .inr (0, [.null, .null, .null, .null, .null, .null, .null, .null, .null, .null, .null, .int 0, .int 0]))]) (tc := []) hx hb hml hown hg gw_self (va_Pl hP) (va_Dl hD) (va_Kl hK) hS hA hnw hgk [34] [] (by decide) rfl rfl (c_Book_init l D ks H.size q78) w469 w470 w167 w471 rfl hdS_yX0_init ⟨Nat.le_of_ble_eq_true rfl, Nat.le_of_ble_eq_true rfl⟩ rfl hl.1 rfl (Nat.le_of_ble_eq_true rfl) dX11_init_79 ⟨Nat.le_of_ble_eq_true rfl, Nat.le_of_ble_eq_true rfl⟩) hP hD hK hS hA [34] [0, 1, 2, 3, 4, 5, 6, 7, 8, 9, 10, 11, 12, 13, 14, 15, 16, 17, 18, 19, 20, 21, 22, 23, 24, 25, 26, 27, 28, 29, 30, 31, 32, 33] [0, 1, 2, 3, 4, 5, 6, 7, 8, 9, 10, 11, 12, 13, 14, 15, 16, 17, 18, 19, 20, 21, 22, 23, 24, 25, 26, 27] rfl rfl (by decide) (by decide) rfl (fun u79 H locs hw80 hP hD hK hS => ?_)
  obtain ⟨B81, rfl⟩ : ∃ z : BU, z = u79 := ⟨_, rfl⟩
  have hP : va_P D vwCl (HAppend.hAppend (α := va_W) (β := va_W) (γ := va_W) [(h0, .inr (11, [.ref q1, .ref q15, .ref q18, .ref q33, .ref q61, .null, .ref q74, .null, .int 0, .int 0])), (q1, .inr (9, [.ref a_2, .ref a_3, .ref a_4, .ref a_5, .ref a_6, .int 0, .int 0, .int 0, .int 0, .int 0, .int 0, .long 0])), (a_2, .inl (k_7, 4000, .inl (fun _ => 0))), (a_3, .inl (k_8, 28, .inr (.inl (gk_12)))), (a_4, .inl (k_9, 4001, .inl (fun _ => 0))), (a_5, .inl (k_10, 4001, .inl (fun _ => 0))), (a_6, .inl (k_11, 4001, .inr (.inl (fun _ => 0)))), (q15, .inr (1, [.ref q1, .null, .null, .int 0, .int 0, .long 0, .int 0, .int 0, .int 0])), (q18, .inr (2, [.ref a_19, .ref a_20, .ref a_21, .ref a_22, .ref a_23, .ref a_24, .null, .int 0])), (a_19, .inl (k_25, 100, .inl (fun _ => 0))), (a_20, .inl (k_26, 100, .inl (fun _ => 0))), (a_21, .inl (k_27, 100, .inl (fun _ => 0))), (a_22, .inl (k_28, 2400, .inl (fun _ => 0))), (a_23, .inl (k_29, 24, .inl (fun _ => 0))), (a_24, .inl (k_30, 24, .inl (fun _ => 0))), (q33, .inr (8, [.ref a_34, .ref a_35, .ref a_36, .ref a_37, .ref a_38, .ref a_39, .ref a_40, .ref a_41, .ref a_42, .ref a_43, .ref a_44, .ref a_45, .int 1, .int 0, .int 0, .int 0])), (a_34, .inl (k_46, 40, .inl (fun _ => 0))), (a_35, .inl (k_47, 40, .inl (fun _ => 0))), (a_36, .inl (k_48, 40, .inl (upd (fun _ => 0) 0 1))), (a_37, .inl (k_49, 40, .inl (fun _ => 0))), (a_38, .inl (k_50, 960, .inl (g_58))), (a_39, .inl (k_51, 300, .inl (fun _ => 0))), (a_40, .inl (k_52, 300, .inl (fun _ => 0))), (a_41, .inl (k_53, 300, .inl (fun _ => 0))), (a_42, .inl (k_54, 300, .inl (fun _ => 0))), (a_43, .inl (k_55, 2400, .inl (fun _ => 0))), (a_44, .inl (k_56, 512, .inl (fun _ => 0))), (a_45, .inl (k_57, 512, .inl (fun _ => 0))), (q61, .inr (7, [.ref a_62, .ref a_63, .ref a_64, .ref a_65, .ref a_66, .int 0, .int 0, .int 0, .int 0, .int 0])), (a_62, .inl (k_67, 100, .inl (fun _ => 0))), (a_63, .inl (k_68, 100, .inl (fun _ => 0))), (a_64, .inl (k_69, 100, .inl (fun _ => 0))), (a_65, .inl (k_70, 300, .inl (fun _ => 0))), (a_66, .inl (k_71, 300, .inl (fun _ => 0)))] (bkw q78 B81 ++ (bkw q74 B77 ++ ([] : va_W)))) H := by rw [← List.append_assoc]; exact hP
  have hD : va_D A (HAppend.hAppend (α := va_W) (β := va_W) (γ := va_W) [(h0, .inr (11, [.ref q1, .ref q15, .ref q18, .ref q33, .ref q61, .null, .ref q74, .null, .int 0, .int 0])), (q1, .inr (9, [.ref a_2, .ref a_3, .ref a_4, .ref a_5, .ref a_6, .int 0, .int 0, .int 0, .int 0, .int 0, .int 0, .long 0])), (a_2, .inl (k_7, 4000, .inl (fun _ => 0))), (a_3, .inl (k_8, 28, .inr (.inl (gk_12)))), (a_4, .inl (k_9, 4001, .inl (fun _ => 0))), (a_5, .inl (k_10, 4001, .inl (fun _ => 0))), (a_6, .inl (k_11, 4001, .inr (.inl (fun _ => 0)))), (q15, .inr (1, [.ref q1, .null, .null, .int 0, .int 0, .long 0, .int 0, .int 0, .int 0])), (q18, .inr (2, [.ref a_19, .ref a_20, .ref a_21, .ref a_22, .ref a_23, .ref a_24, .null, .int 0])), (a_19, .inl (k_25, 100, .inl (fun _ => 0))), (a_20, .inl (k_26, 100, .inl (fun _ => 0))), (a_21, .inl (k_27, 100, .inl (fun _ => 0))), (a_22, .inl (k_28, 2400, .inl (fun _ => 0))), (a_23, .inl (k_29, 24, .inl (fun _ => 0))), (a_24, .inl (k_30, 24, .inl (fun _ => 0))), (q33, .inr (8, [.ref a_34, .ref a_35, .ref a_36, .ref a_37, .ref a_38, .ref a_39, .ref a_40, .ref a_41, .ref a_42, .ref a_43, .ref a_44, .ref a_45, .int 1, .int 0, .int 0, .int 0])), (a_34, .inl (k_46, 40, .inl (fun _ => 0))), (a_35, .inl (k_47, 40, .inl (fun _ => 0))), (a_36, .inl (k_48, 40, .inl (upd (fun _ => 0) 0 1))), (a_37, .inl (k_49, 40, .inl (fun _ => 0))), (a_38, .inl (k_50, 960, .inl (g_58))), (a_39, .inl (k_51, 300, .inl (fun _ => 0))), (a_40, .inl (k_52, 300, .inl (fun _ => 0))), (a_41, .inl (k_53, 300, .inl (fun _ => 0))), (a_42, .inl (k_54, 300, .inl (fun _ => 0))), (a_43, .inl (k_55, 2400, .inl (fun _ => 0))), (a_44, .inl (k_56, 512, .inl (fun _ => 0))), (a_45, .inl (k_57, 512, .inl (fun _ => 0))), (q61, .inr (7, [.ref a_62, .ref a_63, .ref a_64, .ref a_65, .ref a_66, .int 0, .int 0, .int 0, .int 0, .int 0])), (a_62, .inl (k_67, 100, .inl (fun _ => 0))), (a_63, .inl (k_68, 100, .inl (fun _ => 0))), (a_64, .inl (k_69, 100, .inl (fun _ => 0))), (a_65, .inl (k_70, 300, .inl (fun _ => 0))), (a_66, .inl (k_71, 300, .inl (fun _ => 0)))] (bkw q78 B81 ++ (bkw q74 B77 ++ ([] : va_W)))) := by rw [← List.append_assoc]; exact hD
  have hK : va_K D vwCl (HAppend.hAppend (α := List (ClassId × FieldType)) (β := List (ClassId × FieldType)) (γ := List (ClassId × FieldType)) [(k_7, .byte), (k_8, .long), (k_9, .int), (k_10, .int), (k_11, .long), (k_25, .int), (k_26, .int), (k_27, .int), (k_28, .int), (k_29, .int), (k_30, .int), (k_46, .int), (k_47, .int), (k_48, .boolean), (k_49, .int), (k_50, .int), (k_51, .int), (k_52, .int), (k_53, .int), (k_54, .int), (k_55, .int), (k_56, .int), (k_57, .int), (k_67, .int), (k_68, .int), (k_69, .int), (k_70, .int), (k_71, .int)] (bkt B81 ++ (bkt B77 ++ ([] : List (ClassId × FieldType))))) s := by rw [← List.append_assoc]; exact hK
  refine va_put (D := D) (ci := 11) (v := .ref q78) (ty := tyX11 7) (C := RX11) (T := TX11) (N := 10) hx hb hg inX11 tyX11 tyX11_ok nmX11 hown hK hP hD hS 0 rfl rfl 7 (by decide) (hg _ w722) (fun _ h9 => h9) rfl (tyX11_ok 7 (by decide)) rfl rfl (Nat.le_of_ble_eq_true rfl) dX11_init_82 (fun H locs hP hD hS => ?_)
  refine va_cv hP hD (ws' := (HAppend.hAppend (α := va_W) (β := va_W) (γ := va_W) [(h0, .inr (11, [.ref q1, .ref q15, .ref q18, .ref q33, .ref q61, .null, .ref q74, .ref q78, .int 0, .int 0])), (q1, .inr (9, [.ref a_2, .ref a_3, .ref a_4, .ref a_5, .ref a_6, .int 0, .int 0, .int 0, .int 0, .int 0, .int 0, .long 0])), (a_2, .inl (k_7, 4000, .inl (fun _ => 0))), (a_3, .inl (k_8, 28, .inr (.inl (gk_12)))), (a_4, .inl (k_9, 4001, .inl (fun _ => 0))), (a_5, .inl (k_10, 4001, .inl (fun _ => 0))), (a_6, .inl (k_11, 4001, .inr (.inl (fun _ => 0)))), (q15, .inr (1, [.ref q1, .null, .null, .int 0, .int 0, .long 0, .int 0, .int 0, .int 0])), (q18, .inr (2, [.ref a_19, .ref a_20, .ref a_21, .ref a_22, .ref a_23, .ref a_24, .null, .int 0])), (a_19, .inl (k_25, 100, .inl (fun _ => 0))), (a_20, .inl (k_26, 100, .inl (fun _ => 0))), (a_21, .inl (k_27, 100, .inl (fun _ => 0))), (a_22, .inl (k_28, 2400, .inl (fun _ => 0))), (a_23, .inl (k_29, 24, .inl (fun _ => 0))), (a_24, .inl (k_30, 24, .inl (fun _ => 0))), (q33, .inr (8, [.ref a_34, .ref a_35, .ref a_36, .ref a_37, .ref a_38, .ref a_39, .ref a_40, .ref a_41, .ref a_42, .ref a_43, .ref a_44, .ref a_45, .int 1, .int 0, .int 0, .int 0])), (a_34, .inl (k_46, 40, .inl (fun _ => 0))), (a_35, .inl (k_47, 40, .inl (fun _ => 0))), (a_36, .inl (k_48, 40, .inl (upd (fun _ => 0) 0 1))), (a_37, .inl (k_49, 40, .inl (fun _ => 0))), (a_38, .inl (k_50, 960, .inl (g_58))), (a_39, .inl (k_51, 300, .inl (fun _ => 0))), (a_40, .inl (k_52, 300, .inl (fun _ => 0))), (a_41, .inl (k_53, 300, .inl (fun _ => 0))), (a_42, .inl (k_54, 300, .inl (fun _ => 0))), (a_43, .inl (k_55, 2400, .inl (fun _ => 0))), (a_44, .inl (k_56, 512, .inl (fun _ => 0))), (a_45, .inl (k_57, 512, .inl (fun _ => 0))), (q61, .inr (7, [.ref a_62, .ref a_63, .ref a_64, .ref a_65, .ref a_66, .int 0, .int 0, .int 0, .int 0, .int 0])), (a_62, .inl (k_67, 100, .inl (fun _ => 0))), (a_63, .inl (k_68, 100, .inl (fun _ => 0))), (a_64, .inl (k_69, 100, .inl (fun _ => 0))), (a_65, .inl (k_70, 300, .inl (fun _ => 0))), (a_66, .inl (k_71, 300, .inl (fun _ => 0)))] (bkw q78 B81 ++ (bkw q74 B77 ++ ([] : va_W))))) rfl (fun hP hD => ?_)
  refine lv_aload_n hx hb dX11_init_85 rfl (lv_at hl 0 rfl) ?_
  refine va_new (ci := 5) (fs := [.null, .null, .null, .null, .null, .null, .int 0, .int 0, .int 0, .int 0, .int 0, .int 0, .int 0, .int 0, .int 0]) (C := RX5) (T := TX5) (N := 15) hx hb hg inX5 tyX5 tyX5_ok hown (hg _ w659) (hg _ w660) (hg _ w171) hK hP hD hS hA rfl nfX5 (Nat.le_of_ble_eq_true rfl) (Nat.le_of_ble_eq_true rfl) dX11_init_86 (fun q82 H hP hD hS => ?_)
  have hP : va_P D vwCl (HAppend.hAppend (α := va_W) (β := va_W) (γ := va_W) [(h0, .inr (11, [.ref q1, .ref q15, .ref q18, .ref q33, .ref q61, .null, .ref q74, .ref q78, .int 0, .int 0])), (q1, .inr (9, [.ref a_2, .ref a_3, .ref a_4, .ref a_5, .ref a_6, .int 0, .int 0, .int 0, .int 0, .int 0, .int 0, .long 0])), (a_2, .inl (k_7, 4000, .inl (fun _ => 0))), (a_3, .inl (k_8, 28, .inr (.inl (gk_12)))), (a_4, .inl (k_9, 4001, .inl (fun _ => 0))), (a_5, .inl (k_10, 4001, .inl (fun _ => 0))), (a_6, .inl (k_11, 4001, .inr (.inl (fun _ => 0)))), (q15, .inr (1, [.ref q1, .null, .null, .int 0, .int 0, .long 0, .int 0, .int 0, .int 0])), (q18, .inr (2, [.ref a_19, .ref a_20, .ref a_21, .ref a_22, .ref a_23, .ref a_24, .null, .int 0])), (a_19, .inl (k_25, 100, .inl (fun _ => 0))), (a_20, .inl (k_26, 100, .inl (fun _ => 0))), (a_21, .inl (k_27, 100, .inl (fun _ => 0))), (a_22, .inl (k_28, 2400, .inl (fun _ => 0))), (a_23, .inl (k_29, 24, .inl (fun _ => 0))), (a_24, .inl (k_30, 24, .inl (fun _ => 0))), (q33, .inr (8, [.ref a_34, .ref a_35, .ref a_36, .ref a_37, .ref a_38, .ref a_39, .ref a_40, .ref a_41, .ref a_42, .ref a_43, .ref a_44, .ref a_45, .int 1, .int 0, .int 0, .int 0])), (a_34, .inl (k_46, 40, .inl (fun _ => 0))), (a_35, .inl (k_47, 40, .inl (fun _ => 0))), (a_36, .inl (k_48, 40, .inl (upd (fun _ => 0) 0 1))), (a_37, .inl (k_49, 40, .inl (fun _ => 0))), (a_38, .inl (k_50, 960, .inl (g_58))), (a_39, .inl (k_51, 300, .inl (fun _ => 0))), (a_40, .inl (k_52, 300, .inl (fun _ => 0))), (a_41, .inl (k_53, 300, .inl (fun _ => 0))), (a_42, .inl (k_54, 300, .inl (fun _ => 0))), (a_43, .inl (k_55, 2400, .inl (fun _ => 0))), (a_44, .inl (k_56, 512, .inl (fun _ => 0))), (a_45, .inl (k_57, 512, .inl (fun _ => 0))), (q61, .inr (7, [.ref a_62, .ref a_63, .ref a_64, .ref a_65, .ref a_66, .int 0, .int 0, .int 0, .int 0, .int 0])), (a_62, .inl (k_67, 100, .inl (fun _ => 0))), (a_63, .inl (k_68, 100, .inl (fun _ => 0))), (a_64, .inl (k_69, 100, .inl (fun _ => 0))), (a_65, .inl (k_70, 300, .inl (fun _ => 0))), (a_66, .inl (k_71, 300, .inl (fun _ => 0))), (q82, .inr (5, [.null, .null, .null, .null, .null, .null, .int 0, .int 0, .int 0, .int 0, .int 0, .int 0, .int 0, .int 0, .int 0]))] (bkw q78 B81 ++ (bkw q74 B77 ++ ([] : va_W)))) H := va_Prot hP
  have hD : va_D A (HAppend.hAppend (α := va_W) (β := va_W) (γ := va_W) [(h0, .inr (11, [.ref q1, .ref q15, .ref q18, .ref q33, .ref q61, .null, .ref q74, .ref q78, .int 0, .int 0])), (q1, .inr (9, [.ref a_2, .ref a_3, .ref a_4, .ref a_5, .ref a_6, .int 0, .int 0, .int 0, .int 0, .int 0, .int 0, .long 0])), (a_2, .inl (k_7, 4000, .inl (fun _ => 0))), (a_3, .inl (k_8, 28, .inr (.inl (gk_12)))), (a_4, .inl (k_9, 4001, .inl (fun _ => 0))), (a_5, .inl (k_10, 4001, .inl (fun _ => 0))), (a_6, .inl (k_11, 4001, .inr (.inl (fun _ => 0)))), (q15, .inr (1, [.ref q1, .null, .null, .int 0, .int 0, .long 0, .int 0, .int 0, .int 0])), (q18, .inr (2, [.ref a_19, .ref a_20, .ref a_21, .ref a_22, .ref a_23, .ref a_24, .null, .int 0])), (a_19, .inl (k_25, 100, .inl (fun _ => 0))), (a_20, .inl (k_26, 100, .inl (fun _ => 0))), (a_21, .inl (k_27, 100, .inl (fun _ => 0))), (a_22, .inl (k_28, 2400, .inl (fun _ => 0))), (a_23, .inl (k_29, 24, .inl (fun _ => 0))), (a_24, .inl (k_30, 24, .inl (fun _ => 0))), (q33, .inr (8, [.ref a_34, .ref a_35, .ref a_36, .ref a_37, .ref a_38, .ref a_39, .ref a_40, .ref a_41, .ref a_42, .ref a_43, .ref a_44, .ref a_45, .int 1, .int 0, .int 0, .int 0])), (a_34, .inl (k_46, 40, .inl (fun _ => 0))), (a_35, .inl (k_47, 40, .inl (fun _ => 0))), (a_36, .inl (k_48, 40, .inl (upd (fun _ => 0) 0 1))), (a_37, .inl (k_49, 40, .inl (fun _ => 0))), (a_38, .inl (k_50, 960, .inl (g_58))), (a_39, .inl (k_51, 300, .inl (fun _ => 0))), (a_40, .inl (k_52, 300, .inl (fun _ => 0))), (a_41, .inl (k_53, 300, .inl (fun _ => 0))), (a_42, .inl (k_54, 300, .inl (fun _ => 0))), (a_43, .inl (k_55, 2400, .inl (fun _ => 0))), (a_44, .inl (k_56, 512, .inl (fun _ => 0))), (a_45, .inl (k_57, 512, .inl (fun _ => 0))), (q61, .inr (7, [.ref a_62, .ref a_63, .ref a_64, .ref a_65, .ref a_66, .int 0, .int 0, .int 0, .int 0, .int 0])), (a_62, .inl (k_67, 100, .inl (fun _ => 0))), (a_63, .inl (k_68, 100, .inl (fun _ => 0))), (a_64, .inl (k_69, 100, .inl (fun _ => 0))), (a_65, .inl (k_70, 300, .inl (fun _ => 0))), (a_66, .inl (k_71, 300, .inl (fun _ => 0))), (q82, .inr (5, [.null, .null, .null, .null, .null, .null, .int 0, .int 0, .int 0, .int 0, .int 0, .int 0, .int 0, .int 0, .int 0]))] (bkw q78 B81 ++ (bkw q74 B77 ++ ([] : va_W)))) := va_Drot hD
  refine lv_dup hx hb dX11_init_89 rfl ?_
  refine lv_aload_n hx hb dX11_init_90 rfl (lv_at hl 0 rfl) ?_
  refine va_get (D := D) (ci := 11) (v := .ref q74) (C := RX11) (T := TX11) (N := 10) hx hb hg inX11 hown hK hP 0 rfl rfl 6 (by decide) (hg _ w721) (fun _ h9 => h9) rfl dX11_init_91 ?_
  refine lv_aload_n hx hb dX11_init_94 rfl (lv_at hl 0 rfl) ?_
  refine va_get (D := D) (ci := 11) (v := .ref q33) (C := RX11) (T := TX11) (N := 10) hx hb hg inX11 hown hK hP 0 rfl rfl 3 (by decide) (hg _ w718) (fun _ h9 => h9) rfl dX11_init_95 ?_
  refine lv_aload_n hx hb dX11_init_98 rfl (lv_at hl 0 rfl) ?_
  refine va_get (D := D) (ci := 11) (v := .ref q61) (C := RX11) (T := TX11) (N := 10) hx hb hg inX11 hown hK hP 0 rfl rfl 4 (by decide) (hg _ w719) (fun _ h9 => h9) rfl dX11_init_99 ?_
  refine gR_void (wr := [(h0, .inr (11, [.ref q1, .ref q15, .ref q18, .ref q33, .ref q61, .null, .ref q74, .ref q78, .int 0, .int 0])), (q1, .inr (9, [.ref a_2, .ref a_3, .ref a_4, .ref a_5, .ref a_6, .int 0, .int 0, .int 0, .int 0, .int 0, .int 0, .long 0])), (a_2, .inl (k_7, 4000, .inl (fun _ => 0))), (a_3, .inl (k_8, 28, .inr (.inl (gk_12)))), (a_4, .inl (k_9, 4001, .inl (fun _ => 0))), (a_5, .inl (k_10, 4001, .inl (fun _ => 0))), (a_6, .inl (k_11, 4001, .inr (.inl (fun _ => 0)))), (q15, .inr (1, [.ref q1, .null, .null, .int 0, .int 0, .long 0, .int 0, .int 0, .int 0])), (q18, .inr (2, [.ref a_19, .ref a_20, .ref a_21, .ref a_22, .ref a_23, .ref a_24, .null, .int 0])), (a_19, .inl (k_25, 100, .inl (fun _ => 0))), (a_20, .inl (k_26, 100, .inl (fun _ => 0))), (a_21, .inl (k_27, 100, .inl (fun _ => 0))), (a_22, .inl (k_28, 2400, .inl (fun _ => 0))), (a_23, .inl (k_29, 24, .inl (fun _ => 0))), (a_24, .inl (k_30, 24, .inl (fun _ => 0))), (q33, .inr (8, [.ref a_34, .ref a_35, .ref a_36, .ref a_37, .ref a_38, .ref a_39, .ref a_40, .ref a_41, .ref a_42, .ref a_43, .ref a_44, .ref a_45, .int 1, .int 0, .int 0, .int 0])), (a_34, .inl (k_46, 40, .inl (fun _ => 0))), (a_35, .inl (k_47, 40, .inl (fun _ => 0))), (a_36, .inl (k_48, 40, .inl (upd (fun _ => 0) 0 1))), (a_37, .inl (k_49, 40, .inl (fun _ => 0))), (a_38, .inl (k_50, 960, .inl (g_58))), (a_39, .inl (k_51, 300, .inl (fun _ => 0))), (a_40, .inl (k_52, 300, .inl (fun _ => 0))), (a_41, .inl (k_53, 300, .inl (fun _ => 0))), (a_42, .inl (k_54, 300, .inl (fun _ => 0))), (a_43, .inl (k_55, 2400, .inl (fun _ => 0))), (a_44, .inl (k_56, 512, .inl (fun _ => 0))), (a_45, .inl (k_57, 512, .inl (fun _ => 0))), (q61, .inr (7, [.ref a_62, .ref a_63, .ref a_64, .ref a_65, .ref a_66, .int 0, .int 0, .int 0, .int 0, .int 0])), (a_62, .inl (k_67, 100, .inl (fun _ => 0))), (a_63, .inl (k_68, 100, .inl (fun _ => 0))), (a_64, .inl (k_69, 100, .inl (fun _ => 0))), (a_65, .inl (k_70, 300, .inl (fun _ => 0))), (a_66, .inl (k_71, 300, .inl (fun _ => 0)))]) (tr := [(k_7, .byte), (k_8, .long), (k_9, .int), (k_10, .int), (k_11, .long), (k_25, .int), (k_26, .int), (k_27, .int), (k_28, .int), (k_29, .int), (k_30, .int), (k_46, .int), (k_47, .int), (k_48, .boolean), (k_49, .int), (k_50, .int), (k_51, .int), (k_52, .int), (k_53, .int), (k_54, .int), (k_55, .int), (k_56, .int), (k_57, .int), (k_67, .int), (k_68, .int), (k_69, .int), (k_70, .int), (k_71, .int)]) (g_runI (As := [.ref q74, .ref q33, .ref q61]) (rest := [.ref q82, .ref h0]) (wc := [(q82, .inr (5, [.null, .null, .null, .null, .null, .null, .int 0, .int 0, .int 0, .int 0, .int 0, .int 0, .int 0, .int 0, .int 0]))]) (tc := []) hx hb hml hown hg gw_self (va_Pl hP) (va_Dl hD) (va_Kl hK) hS hA hnw hgk [34] [] (by decide) rfl rfl (c_Machine_init l D ks H.size q82 q74 q33 q61) w661 w662 w171 w663 rfl hdS_yX5_init ⟨Nat.le_of_ble_eq_true rfl, Nat.le_of_ble_eq_true rfl⟩ rfl hl.1 rfl (Nat.le_of_ble_eq_true rfl) dX11_init_102 ⟨Nat.le_of_ble_eq_true rfl, Nat.le_of_ble_eq_true rfl⟩) hP hD hK hS hA [34] [0, 1, 2, 3, 4, 5, 6, 7, 8, 9, 10, 11, 12, 13, 14, 15, 16, 17, 18, 19, 20, 21, 22, 23, 24, 25, 26, 27, 28, 29, 30, 31, 32, 33] [0, 1, 2, 3, 4, 5, 6, 7, 8, 9, 10, 11, 12, 13, 14, 15, 16, 17, 18, 19, 20, 21, 22, 23, 24, 25, 26, 27] rfl rfl (by decide) (by decide) rfl (fun u83 H locs hw84 hP hD hK hS => ?_)
  obtain ⟨a_85, a_86, a_87, k_88, k_89, k_90⟩ := u83
  refine va_cv hP hD (ws' := (HAppend.hAppend (α := va_W) (β := va_W) (γ := va_W) [(h0, .inr (11, [.ref q1, .ref q15, .ref q18, .ref q33, .ref q61, .null, .ref q74, .ref q78, .int 0, .int 0])), (q1, .inr (9, [.ref a_2, .ref a_3, .ref a_4, .ref a_5, .ref a_6, .int 0, .int 0, .int 0, .int 0, .int 0, .int 0, .long 0])), (a_2, .inl (k_7, 4000, .inl (fun _ => 0))), (a_3, .inl (k_8, 28, .inr (.inl (gk_12)))), (a_4, .inl (k_9, 4001, .inl (fun _ => 0))), (a_5, .inl (k_10, 4001, .inl (fun _ => 0))), (a_6, .inl (k_11, 4001, .inr (.inl (fun _ => 0)))), (q15, .inr (1, [.ref q1, .null, .null, .int 0, .int 0, .long 0, .int 0, .int 0, .int 0])), (q18, .inr (2, [.ref a_19, .ref a_20, .ref a_21, .ref a_22, .ref a_23, .ref a_24, .null, .int 0])), (a_19, .inl (k_25, 100, .inl (fun _ => 0))), (a_20, .inl (k_26, 100, .inl (fun _ => 0))), (a_21, .inl (k_27, 100, .inl (fun _ => 0))), (a_22, .inl (k_28, 2400, .inl (fun _ => 0))), (a_23, .inl (k_29, 24, .inl (fun _ => 0))), (a_24, .inl (k_30, 24, .inl (fun _ => 0))), (q33, .inr (8, [.ref a_34, .ref a_35, .ref a_36, .ref a_37, .ref a_38, .ref a_39, .ref a_40, .ref a_41, .ref a_42, .ref a_43, .ref a_44, .ref a_45, .int 1, .int 0, .int 0, .int 0])), (a_34, .inl (k_46, 40, .inl (fun _ => 0))), (a_35, .inl (k_47, 40, .inl (fun _ => 0))), (a_36, .inl (k_48, 40, .inl (upd (fun _ => 0) 0 1))), (a_37, .inl (k_49, 40, .inl (fun _ => 0))), (a_38, .inl (k_50, 960, .inl (g_58))), (a_39, .inl (k_51, 300, .inl (fun _ => 0))), (a_40, .inl (k_52, 300, .inl (fun _ => 0))), (a_41, .inl (k_53, 300, .inl (fun _ => 0))), (a_42, .inl (k_54, 300, .inl (fun _ => 0))), (a_43, .inl (k_55, 2400, .inl (fun _ => 0))), (a_44, .inl (k_56, 512, .inl (fun _ => 0))), (a_45, .inl (k_57, 512, .inl (fun _ => 0))), (q61, .inr (7, [.ref a_62, .ref a_63, .ref a_64, .ref a_65, .ref a_66, .int 0, .int 0, .int 0, .int 0, .int 0])), (a_62, .inl (k_67, 100, .inl (fun _ => 0))), (a_63, .inl (k_68, 100, .inl (fun _ => 0))), (a_64, .inl (k_69, 100, .inl (fun _ => 0))), (a_65, .inl (k_70, 300, .inl (fun _ => 0))), (a_66, .inl (k_71, 300, .inl (fun _ => 0))), (q82, .inr (5, [.ref q33, .ref q61, .ref a_85, .ref a_86, .ref a_87, .ref q74, .int 0, .int 0, .int 0, .int 0, .int 0, .int 0, .int 0, .int 0, .int 0])), (a_85, .inl (k_88, 400, .inr (.inr (.inr (.inr (fun _ => none)))))), (a_86, .inl (k_89, 2048, .inl (fun _ => 0))), (a_87, .inl (k_90, 300, .inl (fun _ => 0)))] (bkw q78 B81 ++ (bkw q74 B77 ++ ([] : va_W))))) rfl (fun hP hD => ?_)
  have hK : va_K D vwCl (HAppend.hAppend (α := List (ClassId × FieldType)) (β := List (ClassId × FieldType)) (γ := List (ClassId × FieldType)) [(k_7, .byte), (k_8, .long), (k_9, .int), (k_10, .int), (k_11, .long), (k_25, .int), (k_26, .int), (k_27, .int), (k_28, .int), (k_29, .int), (k_30, .int), (k_46, .int), (k_47, .int), (k_48, .boolean), (k_49, .int), (k_50, .int), (k_51, .int), (k_52, .int), (k_53, .int), (k_54, .int), (k_55, .int), (k_56, .int), (k_57, .int), (k_67, .int), (k_68, .int), (k_69, .int), (k_70, .int), (k_71, .int), (k_88, .object RX4), (k_89, .int), (k_90, .int)] (bkt B81 ++ (bkt B77 ++ ([] : List (ClassId × FieldType))))) s := hK
  refine va_putF (D := D) (ci := 11) (v := .ref q82) (ty := tyX11 5) (C := RX11) (T := TX11) (N := 10) hx hb hg inX11 tyX11 tyX11_ok nmX11 hown hK hP hD hS 0 rfl rfl 5 (by decide) (hg _ w720) (fun _ h9 => h9) rfl hin rfl (tyX11_ok 5 (by decide)) rfl rfl (Nat.le_of_ble_eq_true rfl) dX11_init_105 (fun H locs hP hD hS => ?_)
  refine va_cv hP hD (ws' := (HAppend.hAppend (α := va_W) (β := va_W) (γ := va_W) [(h0, .inr (11, [.ref q1, .ref q15, .ref q18, .ref q33, .ref q61, .ref q82, .ref q74, .ref q78, .int 0, .int 0])), (q1, .inr (9, [.ref a_2, .ref a_3, .ref a_4, .ref a_5, .ref a_6, .int 0, .int 0, .int 0, .int 0, .int 0, .int 0, .long 0])), (a_2, .inl (k_7, 4000, .inl (fun _ => 0))), (a_3, .inl (k_8, 28, .inr (.inl (gk_12)))), (a_4, .inl (k_9, 4001, .inl (fun _ => 0))), (a_5, .inl (k_10, 4001, .inl (fun _ => 0))), (a_6, .inl (k_11, 4001, .inr (.inl (fun _ => 0)))), (q15, .inr (1, [.ref q1, .null, .null, .int 0, .int 0, .long 0, .int 0, .int 0, .int 0])), (q18, .inr (2, [.ref a_19, .ref a_20, .ref a_21, .ref a_22, .ref a_23, .ref a_24, .null, .int 0])), (a_19, .inl (k_25, 100, .inl (fun _ => 0))), (a_20, .inl (k_26, 100, .inl (fun _ => 0))), (a_21, .inl (k_27, 100, .inl (fun _ => 0))), (a_22, .inl (k_28, 2400, .inl (fun _ => 0))), (a_23, .inl (k_29, 24, .inl (fun _ => 0))), (a_24, .inl (k_30, 24, .inl (fun _ => 0))), (q33, .inr (8, [.ref a_34, .ref a_35, .ref a_36, .ref a_37, .ref a_38, .ref a_39, .ref a_40, .ref a_41, .ref a_42, .ref a_43, .ref a_44, .ref a_45, .int 1, .int 0, .int 0, .int 0])), (a_34, .inl (k_46, 40, .inl (fun _ => 0))), (a_35, .inl (k_47, 40, .inl (fun _ => 0))), (a_36, .inl (k_48, 40, .inl (upd (fun _ => 0) 0 1))), (a_37, .inl (k_49, 40, .inl (fun _ => 0))), (a_38, .inl (k_50, 960, .inl (g_58))), (a_39, .inl (k_51, 300, .inl (fun _ => 0))), (a_40, .inl (k_52, 300, .inl (fun _ => 0))), (a_41, .inl (k_53, 300, .inl (fun _ => 0))), (a_42, .inl (k_54, 300, .inl (fun _ => 0))), (a_43, .inl (k_55, 2400, .inl (fun _ => 0))), (a_44, .inl (k_56, 512, .inl (fun _ => 0))), (a_45, .inl (k_57, 512, .inl (fun _ => 0))), (q61, .inr (7, [.ref a_62, .ref a_63, .ref a_64, .ref a_65, .ref a_66, .int 0, .int 0, .int 0, .int 0, .int 0])), (a_62, .inl (k_67, 100, .inl (fun _ => 0))), (a_63, .inl (k_68, 100, .inl (fun _ => 0))), (a_64, .inl (k_69, 100, .inl (fun _ => 0))), (a_65, .inl (k_70, 300, .inl (fun _ => 0))), (a_66, .inl (k_71, 300, .inl (fun _ => 0))), (q82, .inr (5, [.ref q33, .ref q61, .ref a_85, .ref a_86, .ref a_87, .ref q74, .int 0, .int 0, .int 0, .int 0, .int 0, .int 0, .int 0, .int 0, .int 0])), (a_85, .inl (k_88, 400, .inr (.inr (.inr (.inr (fun _ => none)))))), (a_86, .inl (k_89, 2048, .inl (fun _ => 0))), (a_87, .inl (k_90, 300, .inl (fun _ => 0)))] (bkw q78 B81 ++ (bkw q74 B77 ++ ([] : va_W))))) rfl (fun hP hD => ?_)
  obtain ⟨u, hu⟩ : ∃ z : HU, z = ((fun k => List.getD (h0 :: q15 :: q18 :: q33 :: q61 :: q82 :: q1 :: a_2 :: a_3 :: a_4 :: a_5 :: a_6 :: a_19 :: a_20 :: a_21 :: a_22 :: a_23 :: a_24 :: a_34 :: a_35 :: a_36 :: a_37 :: a_38 :: a_39 :: a_40 :: a_41 :: a_42 :: a_43 :: a_44 :: a_45 :: a_62 :: a_63 :: a_64 :: a_65 :: a_66 :: a_85 :: a_86 :: a_87 :: q74 :: q78 :: []) k 0, fun k => List.getD (k_7 :: k_7 :: k_7 :: k_7 :: k_7 :: k_7 :: k_7 :: k_7 :: k_8 :: k_9 :: k_10 :: k_11 :: k_25 :: k_26 :: k_27 :: k_28 :: k_29 :: k_30 :: k_46 :: k_47 :: k_48 :: k_49 :: k_50 :: k_51 :: k_52 :: k_53 :: k_54 :: k_55 :: k_56 :: k_57 :: k_67 :: k_68 :: k_69 :: k_70 :: k_71 :: k_88 :: k_89 :: k_90 :: []) k k_7, g_58, gk_12, B77, B81) : HU) := ⟨_, rfl⟩
  have hP8 : va_P D vwCl (hww u) H := by rw [hu]; exact va_Pap ((va_Pl hP).sub (ws' := hs38 ((fun k => List.getD (h0 :: q15 :: q18 :: q33 :: q61 :: q82 :: q1 :: a_2 :: a_3 :: a_4 :: a_5 :: a_6 :: a_19 :: a_20 :: a_21 :: a_22 :: a_23 :: a_24 :: a_34 :: a_35 :: a_36 :: a_37 :: a_38 :: a_39 :: a_40 :: a_41 :: a_42 :: a_43 :: a_44 :: a_45 :: a_62 :: a_63 :: a_64 :: a_65 :: a_66 :: a_85 :: a_86 :: a_87 :: q74 :: q78 :: []) k 0, fun k => List.getD (k_7 :: k_7 :: k_7 :: k_7 :: k_7 :: k_7 :: k_7 :: k_7 :: k_8 :: k_9 :: k_10 :: k_11 :: k_25 :: k_26 :: k_27 :: k_28 :: k_29 :: k_30 :: k_46 :: k_47 :: k_48 :: k_49 :: k_50 :: k_51 :: k_52 :: k_53 :: k_54 :: k_55 :: k_56 :: k_57 :: k_67 :: k_68 :: k_69 :: k_70 :: k_71 :: k_88 :: k_89 :: k_90 :: []) k k_7, g_58, gk_12, B77, B81) : HU)) [0, 7, 8, 15, 28, 34, 1, 2, 3, 4, 5, 6, 9, 10, 11, 12, 13, 14, 16, 17, 18, 19, 20, 21, 22, 23, 24, 25, 26, 27, 29, 30, 31, 32, 33, 35, 36, 37] rfl) (by have h := va_Pr hP; rw [List.append_nil] at h; exact h)
  have hD8 : va_D A (hww u) := by rw [hu]; exact va_Dap ((va_Dl hD).sub (ws' := hs38 ((fun k => List.getD (h0 :: q15 :: q18 :: q33 :: q61 :: q82 :: q1 :: a_2 :: a_3 :: a_4 :: a_5 :: a_6 :: a_19 :: a_20 :: a_21 :: a_22 :: a_23 :: a_24 :: a_34 :: a_35 :: a_36 :: a_37 :: a_38 :: a_39 :: a_40 :: a_41 :: a_42 :: a_43 :: a_44 :: a_45 :: a_62 :: a_63 :: a_64 :: a_65 :: a_66 :: a_85 :: a_86 :: a_87 :: q74 :: q78 :: []) k 0, fun k => List.getD (k_7 :: k_7 :: k_7 :: k_7 :: k_7 :: k_7 :: k_7 :: k_7 :: k_8 :: k_9 :: k_10 :: k_11 :: k_25 :: k_26 :: k_27 :: k_28 :: k_29 :: k_30 :: k_46 :: k_47 :: k_48 :: k_49 :: k_50 :: k_51 :: k_52 :: k_53 :: k_54 :: k_55 :: k_56 :: k_57 :: k_67 :: k_68 :: k_69 :: k_70 :: k_71 :: k_88 :: k_89 :: k_90 :: []) k k_7, g_58, gk_12, B77, B81) : HU)) [0, 7, 8, 15, 28, 34, 1, 2, 3, 4, 5, 6, 9, 10, 11, 12, 13, 14, 16, 17, 18, 19, 20, 21, 22, 23, 24, 25, 26, 27, 29, 30, 31, 32, 33, 35, 36, 37] (by decide) rfl) (by have h := va_Dr hD; rw [List.append_nil] at h; exact h) (by have h := dj_sub (wc := hs38 ((fun k => List.getD (h0 :: q15 :: q18 :: q33 :: q61 :: q82 :: q1 :: a_2 :: a_3 :: a_4 :: a_5 :: a_6 :: a_19 :: a_20 :: a_21 :: a_22 :: a_23 :: a_24 :: a_34 :: a_35 :: a_36 :: a_37 :: a_38 :: a_39 :: a_40 :: a_41 :: a_42 :: a_43 :: a_44 :: a_45 :: a_62 :: a_63 :: a_64 :: a_65 :: a_66 :: a_85 :: a_86 :: a_87 :: q74 :: q78 :: []) k 0, fun k => List.getD (k_7 :: k_7 :: k_7 :: k_7 :: k_7 :: k_7 :: k_7 :: k_7 :: k_8 :: k_9 :: k_10 :: k_11 :: k_25 :: k_26 :: k_27 :: k_28 :: k_29 :: k_30 :: k_46 :: k_47 :: k_48 :: k_49 :: k_50 :: k_51 :: k_52 :: k_53 :: k_54 :: k_55 :: k_56 :: k_57 :: k_67 :: k_68 :: k_69 :: k_70 :: k_71 :: k_88 :: k_89 :: k_90 :: []) k k_7, g_58, gk_12, B77, B81) : HU)) [0, 7, 8, 15, 28, 34, 1, 2, 3, 4, 5, 6, 9, 10, 11, 12, 13, 14, 16, 17, 18, 19, 20, 21, 22, 23, 24, 25, 26, 27, 29, 30, 31, 32, 33, 35, 36, 37] rfl (dj_ap hD); rw [List.append_nil] at h; exact h)
  have hK8 : va_K D vwCl (hwt u) s := by rw [hu]; exact ((va_Kl hK).sub (tys' := ht31 ((fun k => List.getD (h0 :: q15 :: q18 :: q33 :: q61 :: q82 :: q1 :: a_2 :: a_3 :: a_4 :: a_5 :: a_6 :: a_19 :: a_20 :: a_21 :: a_22 :: a_23 :: a_24 :: a_34 :: a_35 :: a_36 :: a_37 :: a_38 :: a_39 :: a_40 :: a_41 :: a_42 :: a_43 :: a_44 :: a_45 :: a_62 :: a_63 :: a_64 :: a_65 :: a_66 :: a_85 :: a_86 :: a_87 :: q74 :: q78 :: []) k 0, fun k => List.getD (k_7 :: k_7 :: k_7 :: k_7 :: k_7 :: k_7 :: k_7 :: k_7 :: k_8 :: k_9 :: k_10 :: k_11 :: k_25 :: k_26 :: k_27 :: k_28 :: k_29 :: k_30 :: k_46 :: k_47 :: k_48 :: k_49 :: k_50 :: k_51 :: k_52 :: k_53 :: k_54 :: k_55 :: k_56 :: k_57 :: k_67 :: k_68 :: k_69 :: k_70 :: k_71 :: k_88 :: k_89 :: k_90 :: []) k k_7, g_58, gk_12, B77, B81) : HU)) [0, 1, 2, 3, 4, 5, 6, 7, 8, 9, 10, 11, 12, 13, 14, 15, 16, 17, 18, 19, 20, 21, 22, 23, 24, 25, 26, 27, 28, 29, 30] rfl).app (by have h := va_Kr hK; rw [List.append_nil] at h; exact h)
  have hu4 : (∀ q : Nat, u.2.2.1 q = if q < 960 then -1 else 0) ∧ u.1 0 = h0 ∧ ∀ j : Nat, j < 28 → u.2.2.2.1 j = kg 155 j := by rw [hu]; exact ⟨hw59, rfl, hw13⟩
  refine W.widen (k := 335) (n := 47911) (Nat.le_of_ble_eq_true rfl) (Nat.le_of_ble_eq_true rfl) ?_
  exact W.vret hx hb hr (fun t ht hW => ⟨⟨u, rfl, hu4, by rw [ht]; exact hw_P hP8, va_K.moved hW.alike (hw_K hK8), hw_D hD8⟩, hS.F ht⟩) hS.2.2 dX11_init_108
end
section
/-! what the tape holds -/
def wrF (s : Int32) (k : Nat) (f : Nat → Int32) : Nat → Int32 := if (s = 10 ∨ (32 ≤ s ∧ s ≤ 126)) ∧ k < 4000 then upd f k s else f
def apF (g : Int64 → Int32 → Int32) : Nat → Int64 → Nat → (Nat → Int32) → (Nat → Int32)
  | 0, _, _, f => f
  | n + 1, v, k, f => apF g n v (stp (g v (shv (n + 1))) k) (wrF (g v (shv (n + 1))) k f)
theorem wrF_i {z : Int32} {k : Nat} {f : Nat → Int32} (h : z.toInt = 10 ∨ (32 ≤ z.toInt ∧ z.toInt ≤ 126)) (hk : k < 4000) : wrF z k f = upd f k z := if_pos ⟨h.elim (fun q => Or.inl (Int32.toInt_inj.mp q)) (fun q => Or.inr ⟨Int32.le_iff_toInt_le.mpr q.1, Int32.le_iff_toInt_le.mpr q.2⟩), hk⟩
theorem wrF_j {z : Int32} {k : Nat} {f : Nat → Int32} (h : (z.toInt ≠ 10 ∧ (z.toInt < 32 ∨ 126 < z.toInt)) ∨ 4000 ≤ k) : wrF z k f = f := if_neg (fun q => by
  rcases h with h | h
  · rcases q.1 with a | a
    · exact h.1 (by rw [a]; decide)
    · have b1 := Int32.le_iff_toInt_le.mp a.1
      have b2 := Int32.le_iff_toInt_le.mp a.2
      have c1 : Int32.toInt 32 = 32 := by decide
      have c2 : Int32.toInt 126 = 126 := by decide
      omega
  · have := q.2
    omega)
theorem apF_s (g : Int64 → Int32 → Int32) (n : Nat) (v : Int64) (k : Nat) (f : Nat → Int32) : apF g (n + 1) v k f = apF g n v (stp (g v (shv (n + 1))) k) (wrF (g v (shv (n + 1))) k f) := rfl
theorem apF_g {g h : Int64 → Int32 → Int32} {v : Int64} (n : Nat) : ∀ (k : Nat) (f : Nat → Int32), (∀ m, m < n → g v (shv (m + 1)) = h v (shv (m + 1))) → apF g n v k f = apF h n v k f := by
  induction n with
  | zero => intro k f _; rfl
  | succ n ih =>
    intro k f e
    rw [apF_s, apF_s, e n (Nat.lt_succ_self n)]
    exact ih _ _ (fun m hm => e m (Nat.lt_succ_of_lt hm))
theorem apF_cm (v : Int64) (k : Nat) (f : Nat → Int32) : apF sgc 8 v k f = apF sgm 8 v k f := apF_g 8 k f (fun m hm => sgc_sgm v m hm)
def eqB (k : Nat) (f g : Nat → Int32) : Prop := ∀ q, q < k → f q = g q
theorem eqB.wr {s : Int32} {k : Nat} {f g : Nat → Int32} (h : eqB k f g) : eqB (stp s k) (wrF s k f) (wrF s k g) := by
  unfold stp wrF
  by_cases c : (s = 10 ∨ (32 ≤ s ∧ s ≤ 126)) ∧ k < 4000
  · rw [if_pos c, if_pos c, if_pos c]
    intro q hq
    show (if q = k then s else f q) = (if q = k then s else g q)
    by_cases e : q = k
    · rw [if_pos e, if_pos e]
    · rw [if_neg e, if_neg e]
      exact h q (by omega)
  · rw [if_neg c, if_neg c, if_neg c]
    exact h
theorem eqB.ap (n : Nat) : ∀ (v : Int64) (k : Nat) (f g : Nat → Int32), eqB k f g → eqB (apk n v k) (apF sgc n v k f) (apF sgc n v k g) := by
  induction n with
  | zero => intro v k f g h; exact h
  | succ n ih => intro v k f g h; exact ih v _ _ _ h.wr
theorem up2_fn {V W : Vf} {c k : Nat} {v : Int32} (h : W = up2 V c k v) : W c = upd (V c) k v := by
  rw [h]
  unfold up2
  rw [if_pos rfl]
theorem up2_fo {V W : Vf} {c k c' : Nat} {v : Int32} (h : W = up2 V c k v) (hc : c' ≠ c) : W c' = V c' := by
  rw [h]
  exact up2_ne hc
theorem nar_l : ∀ n, n < 127 → vp_nar .byte ((nI n).toInt8.toInt32) = nI n := by decide +kernel
theorem nar_z {z w : Int32} (e : w = z.toInt8.toInt32) (h : z.toInt = 10 ∨ (32 ≤ z.toInt ∧ z.toInt ≤ 126)) : vp_nar .byte w = z := by
  have hz : z = nI z.toInt.toNat := Int32.toInt_inj.mp (by rw [nI_toInt (by omega)]; omega)
  rw [e, hz]
  exact nar_l _ (by omega)


abbrev r_x_append2 : Room := { frames := 0, cells := 0, slots := 0, locals := 0 }
abbrev q_x_append2 (D : va_G) (ks : KS) (ad : Nat → Nat) (kk : Nat → ClassId) (V : Vf) (L : Lf) (Z : XZ) (p0 : Int64) (k0 : Nat) (A : Nat → Prop) : Array Value → State → Outcome → State → Prop := va_Qv (fun (u : Vf × Lf) => rgd bX u.1 ∧ agr [(6, 5)] [10] V u.1 ∧ u.2 = L ∧ ((u.1 6 5).toInt = ((apk 8 p0 k0 : Nat) : Int)) ∧ ((u.1 10) = apF sgc 8 p0 k0 (V 10))) (fun u t => gq D A (xw ad kk u.1 u.2 Z) (xty kk Z) t) A
set_option maxHeartbeats 4000000 in
set_option maxRecDepth 100000 in
theorem x_append2 (l : Launch) (D : va_G) (ks : KS) (sz : Nat) (ad : Nat → Nat) (kk : Nat → ClassId) (V : Vf) (L : Lf) (Z : XZ) (p0 : Int64) (k0 : Nat) (hMV : rgd bX V) (y1 : (V 6 5).toInt = (k0 : Int))  : Met l yX9_append (Cond.code yX9_append cX9_append 6 none :: GW) r_x_append2 (va_Pc [.ref (ad 6), .long p0] (gp D ks (xw ad kk V L Z) (xty kk Z) sz)) (q_x_append2 D ks ad kk V L Z p0 k0 (va_A (xw ad kk V L Z) sz)) 0 0 (va_A (xw ad kk V L Z) sz) := by
  refine g_met (q_x_append2 D ks ad kk V L Z p0 k0) (by decide) (Nat.le_of_ble_eq_true rfl) ?_
  intro p e s m below meth c A ls H locs hx hb hr hml hown hg hlocks hin hnw hgk hP hK hD hS hA hl
  have hown : s.vm.findClass RX9 = some m.cls := hown
  have hl : lv_has ls 6 [(0, .ref (ad 6)), (1, .long p0)] := hl
  have hP : va_P D vwCl (xw ad kk V L Z) H := hP
  have hD : va_D A (xw ad kk V L Z) := hD
  have hK : va_K D vwCl (xty kk Z) s := hK
  have agV : agr [(6, 5)] [10] V V := agr.rf
  have r1 : 0 ≤ ((V 6 5)).toInt ∧ ((V 6 5)).toInt ≤ 4000 := hMV 6 5
  refine lv_bipush (v := 56) hx hb dX9_append_0 (by decide) ?_
  refine lv_istore_n (lv' := [(3, .int 56), (0, .ref (ad 6)), (1, .long p0)]) hx hb dX9_append_2 rfl hl (by decide) rfl (fun ls hl => ?_)
  have lp4 : ∀ (fulp4 : Nat) (jg : Nat) (kg : Nat) (y2 : Int32) (V3 : Vf) (H : Heap) (locs : List Loc) (ls : Array Slot), (-8) ≤ y2.toInt ∧ y2.toInt ≤ 56 → y2.toInt = 8 * ((jg : Nat) : Int) - 8 → jg ≤ 8 → (V3 6 5).toInt = ((kg : Nat) : Int) → kg ≤ 4000 → apk jg p0 kg = apk 8 p0 k0 → apF sgc jg p0 kg (V3 10) = apF sgc 8 p0 k0 (V 10) → y2.toInt + 8 < (fulp4 : Int) → agr [(6, 5)] [10] V V3 → rgd bX V3 → va_P D vwCl (xw ad kk V3 L Z) H → va_D A (xw ad kk V3 L Z) → va_S A s.heap H locs → lv_has ls 6 [(3, .int y2), (0, .ref (ad 6)), (1, .long p0)] → W p l e r_x_append2 s m ([.ref (ad 6), .long p0] : List Value).toArray below meth c H locs 0 0 (MQ below (q_x_append2 D ks ad kk V L Z p0 k0 A) ([.ref (ad 6), .long p0] : List Value).toArray s 0 0 A) (F0 m 3 ls []) := by
    intro fulp4
    induction fulp4 with
    | zero =>
      intro jg kg y2 V3 H locs ls klp4_0 xlp4_0 xlp4_1 xlp4_2 xlp4_3 xlp4_4 xlp4_5 hn ajV3 hMV3 hP hD hS hl
      exfalso; (first | exact om_d27d73e3ac80 klp4_0.1 hn | omega)
    | succ fulp4 ihlp4 =>
      intro jg kg y2 V3 H locs ls klp4_0 xlp4_0 xlp4_1 xlp4_2 xlp4_3 xlp4_4 xlp4_5 hn ajV3 hMV3 hP hD hS hl
      have agV3 : agr [(6, 5)] [10] V V3 := agV.tr ajV3 (by decide) (by decide)
      have r5 : 0 ≤ ((V3 6 5)).toInt ∧ ((V3 6 5)).toInt ≤ 4000 := hMV3 6 5
      refine lv_iload_n hx hb dX9_append_3 rfl (lv_at hl 0 rfl) ?_
      refine lv_if_lt (tgt := 85) hx hb dX9_append_4 (by decide) (fun c6 => ?_) (fun c6 => ?_)
      · skip
        have f7 : y2.toInt < 0 := b_lt rfl (by decide) c6
        exact W.vret hx hb hr (fun t ht hW => ⟨⟨(V3, L), rfl, ⟨hMV3, agV3, rfl, (by have hz : jg = 0 := (by omega); subst hz; have hz2 : kg = apk 8 p0 k0 := xlp4_4; show (V3 6 5).toInt = _; rw [← hz2]; omega), (by have hz : jg = 0 := (by omega); subst hz; show V3 10 = _; exact xlp4_5)⟩, by rw [ht]; exact hP, va_K.moved hW.alike hK, hD⟩, hS.F ht⟩) hS.2.2 dX9_append_85
      · skip
        have f8 : 0 ≤ y2.toInt := b_nlt rfl (by decide) c6
        obtain ⟨j, rfl⟩ : ∃ j, jg = j + 1 := ⟨jg - 1, by omega⟩
        refine lv_lload_n hx hb dX9_append_7 rfl (lv_at hl 2 rfl) ?_
        refine lv_iload_n hx hb dX9_append_8 rfl (lv_at hl 0 rfl) ?_
        refine lv_lushr hx hb dX9_append_9 rfl ?_
        refine lv_topl (fun w9 ew9 => ?_)
        refine lv_l2i hx hb dX9_append_10 rfl ?_
        refine lv_topi (fun z10 ez10 => ?_)
        refine lv_sipush (v := 255) hx hb dX9_append_11 (by decide) ?_
        refine lv_iand hx hb dX9_append_14 ?_
        refine lv_topi (fun z11 ez11 => ?_)
        have hz11 : 0 ≤ z11.toInt ∧ z11.toInt ≤ 255 := and_m ez11 (by decide)
        have es : z11 = sgc p0 y2 := by rw [ez11, ez10, ew9]; rfl
        have ey : y2 = shv (j + 1) := Int32.toInt_inj.mp (by rw [shv_toInt (j + 1) (by omega)]; omega)
        refine lv_istore (lv' := [(4, .int z11), (3, .int y2), (0, .ref (ad 6)), (1, .long p0)]) hx hb dX9_append_15 hl (by decide) rfl (fun ls hl => ?_)
        refine lv_iload hx hb dX9_append_17 (lv_at hl 0 rfl) ?_
        refine lv_bipush (v := 10) hx hb dX9_append_19 (by decide) ?_
        refine lv_icmp_eq (tgt := 38) hx hb dX9_append_21 (by decide) (fun c12 => ?_) (fun c12 => ?_)
        · skip
          have f13 : z11.toInt = 10 := b_eq rfl (by decide) c12
          refine lv_iconst (v := 1) hx hb dX9_append_38 (by decide) ?_
          refine lv_goto (tgt := 43) hx hb dX9_append_39 (by decide) ?_
          refine lv_istore (lv' := [(5, .int 1), (4, .int z11), (3, .int y2), (0, .ref (ad 6)), (1, .long p0)]) hx hb dX9_append_43 hl (by decide) rfl (fun ls hl => ?_)
          refine lv_iload hx hb dX9_append_45 (lv_at hl 0 rfl) ?_
          refine lv_if_eq (tgt := 79) hx hb dX9_append_47 (by decide) (fun q => absurd q (by decide)) (fun _ => ?_)
          refine lv_aload_n hx hb dX9_append_50 rfl (lv_at hl 3 rfl) ?_
          refine va_get (D := D) (ci := 9) (v := .int (V3 6 5)) (fs := (xfTape ad V3 L Z)) (C := RX9) (T := TX9) (N := 12) hx hb hg inX9 hown hK hP 6 xgTape rfl 5 (by decide) (hg _ w258) (fun _ h9 => h9) rfl dX9_append_51 ?_
          refine lv_sipush (v := 4000) hx hb dX9_append_54 (by decide) ?_
          refine lv_icmp_ge (tgt := 79) hx hb dX9_append_57 (by decide) (fun c14 => ?_) (fun c14 => ?_)
          · skip
            have f15 : 4000 ≤ ((V3 6 5)).toInt := b_le (by decide) rfl c14
            obtain ⟨z16, ez16⟩ : ∃ y : Int32, y = y2 + (-8) := ⟨_, rfl⟩
            have hz16 : z16.toInt = y2.toInt + (-8) := i_add ez16 rfl (by decide) (by (first | exact om_cd1367a02e57 klp4_0.2 f8 | omega))
            refine lv_iinc (v := z16) (lv' := [(3, .int z16), (5, .int 1), (4, .int z11), (0, .ref (ad 6)), (1, .long p0)]) hx hb dX9_append_79 hl (k := 2) rfl (by rw [ez16]; rfl) (by decide) rfl (fun ls hl => ?_)
            refine lv_goto (tgt := 3) hx hb dX9_append_82 (by decide) ?_
            have r17 : Int32.toInt 1 = 1 := by decide
            have ef18 : V3 10 = V3 10 := rfl
            exact ihlp4 (j) (kg) z16 V3 H locs ls (by (first | exact om_0850c42f4b69 klp4_0.2 f8 hz16 | omega)) (show z16.toInt = 8 * ((j : Nat) : Int) - 8 from by (first | exact om_4b5c81c165b1 xlp4_0 hz16 | omega)) (show j ≤ 8 from by (first | exact om_6ecf95dc7ca7 klp4_0.2 xlp4_0 | omega)) (show (V3 6 5).toInt = ((kg : Nat) : Int) from by (first | exact om_e4dc208c913d xlp4_2 xlp4_3 f15 | omega)) (show kg ≤ 4000 from by (first | exact om_af64e361c991 xlp4_3 | omega)) (by rw [← xlp4_4]; show _ = apk j p0 (stp (sgc p0 (shv (j + 1))) kg); rw [← ey, ← es, stp_j (by omega)]) (by rw [ef18, ← xlp4_5]; show _ = apF sgc j p0 (stp (sgc p0 (shv (j + 1))) kg) (wrF (sgc p0 (shv (j + 1))) kg (V3 10)); rw [← ey, ← es, stp_j (by omega), wrF_j (by omega)]) (by (first | exact om_74a39192ceaa hn hz16 | omega)) (agr.tr agr.rf ajV3 (by decide) (by decide)) hMV3 hP hD hS (lv_sub hl [0, 3, 4] rfl)
          · skip
            have f19 : ((V3 6 5)).toInt < 4000 := b_nle (by decide) rfl c14
            refine lv_aload_n hx hb dX9_append_60 rfl (lv_at hl 3 rfl) ?_
            refine va_get (D := D) (ci := 9) (v := .ref (ad 7)) (fs := (xfTape ad V3 L Z)) (C := RX9) (T := TX9) (N := 12) hx hb hg inX9 hown hK hP 6 xgTape rfl 0 (by decide) (hg _ w252) (fun _ h9 => h9) rfl dX9_append_61 ?_
            refine lv_aload_n hx hb dX9_append_64 rfl (lv_at hl 3 rfl) ?_
            refine lv_dup hx hb dX9_append_65 rfl ?_
            refine va_get (D := D) (ci := 9) (v := .int (V3 6 5)) (fs := (xfTape ad V3 L Z)) (C := RX9) (T := TX9) (N := 12) hx hb hg inX9 hown hK hP 6 xgTape rfl 5 (by decide) (hg _ w258) (fun _ h9 => h9) rfl dX9_append_66 ?_
            refine lv_dup_x1 hx hb dX9_append_69 rfl rfl ?_
            refine lv_iconst (v := 1) hx hb dX9_append_70 (by decide) ?_
            refine lv_iadd hx hb dX9_append_71 ?_
            refine lv_topi (fun z20 ez20 => ?_)
            have hz20 : z20.toInt = ((V3 6 5)).toInt + 1 := i_add ez20 rfl (by decide) (by (first | exact om_67c6ad613360 r5.1 f19 | omega))
            refine va_put (D := D) (ci := 9) (v := .int z20) (ty := tyX9 5) (fs := (xfTape ad V3 L Z)) (C := RX9) (T := TX9) (N := 12) hx hb hg inX9 tyX9 tyX9_ok nmX9 hown hK hP hD hS 6 xgTape rfl 5 (by decide) (hg _ w258) (fun _ h9 => h9) rfl (tyX9_ok 5 (by decide)) rfl rfl (Nat.le_of_ble_eq_true rfl) dX9_append_72 (fun H locs hP hD hS => ?_)
            obtain ⟨V21, hV21⟩ : ∃ z, z = up2 V3 6 5 z20 := ⟨_, rfl⟩
            have ew22 : (xw ad kk V3 L Z).set 6 ((ad 6), .inr (9, (xfTape ad V3 L Z).set 5 (.int z20))) = xw ad kk V21 L Z := by rw [hV21]; exact xw_ss (by decide) rfl (xb_si (by decide))
            have hP : va_P D vwCl (xw ad kk V21 L Z) H := by rw [← ew22]; exact hP
            have hD : va_D A (xw ad kk V21 L Z) := by rw [← ew22]; exact hD
            have hMV21 : rgd bX V21 := hMV3.put hV21 (show 0 ≤ z20.toInt ∧ z20.toInt ≤ 4000 from by (first | exact om_44a0a3faffcf r5.1 f19 hz20 | omega))
            have agV21 : agr [(6, 5)] [10] V V21 := agV3.up hV21 rfl
            refine lv_iload hx hb dX9_append_75 (lv_at hl 1 rfl) ?_
            refine lv_i2b hx hb dX9_append_77 rfl ?_
            refine lv_topi (fun z23 ez23 => ?_)
            refine va_bast (D := D) (i := (V3 6 5)) (x := z23) hx hb hK hP hD hS 7 0 rfl rfl (i_in (a := ((V3 6 5)).toInt) rfl (by (first | exact om_644c9ac25911 r5.1 f19 | omega))) dX9_append_78 (fun H locs hP hD hS => ?_)
            obtain ⟨V24, hV24⟩ : ∃ z, z = up2 V21 10 (Int32.toNatClampNeg (V3 6 5)) (vp_nar .byte z23) := ⟨_, rfl⟩
            have ew25 : (xw ad kk V21 L Z).set 7 ((ad 7), .inl ((kk 7), 4000, .inl (upd (V21 10) (Int32.toNatClampNeg (V3 6 5)) (vp_nar .byte z23)))) = xw ad kk V24 L Z := by rw [hV24]; exact xw_ss (by decide) rfl (xb_si (by decide))
            have hP : va_P D vwCl (xw ad kk V24 L Z) H := by rw [← ew25]; exact hP
            have hD : va_D A (xw ad kk V24 L Z) := by rw [← ew25]; exact hD
            have hMV24 : rgd bX V24 := hMV21.put hV24 (i_full _)
            have agV24 : agr [(6, 5)] [10] V V24 := agV21.up hV24 rfl
            obtain ⟨z26, ez26⟩ : ∃ y : Int32, y = y2 + (-8) := ⟨_, rfl⟩
            have hz26 : z26.toInt = y2.toInt + (-8) := i_add ez26 rfl (by decide) (by (first | exact om_cd1367a02e57 klp4_0.2 f8 | omega))
            refine lv_iinc (v := z26) (lv' := [(3, .int z26), (5, .int 1), (4, .int z11), (0, .ref (ad 6)), (1, .long p0)]) hx hb dX9_append_79 hl (k := 2) rfl (by rw [ez26]; rfl) (by decide) rfl (fun ls hl => ?_)
            refine lv_goto (tgt := 3) hx hb dX9_append_82 (by decide) ?_
            have r27 : Int32.toInt 1 = 1 := by decide
            have pq28 : (V24 6 5).toInt = z20.toInt := congrArg Int32.toInt ((up2_o hV24 (by decide)).trans (up2_s hV21))
            have kz30 := i_clamp (x := (V3 6 5)) rfl (by (first | exact om_eafa9039069c r5.1 | omega))
            have en31 : (Int32.toNatClampNeg (V3 6 5)) = kg := by (first | exact om_c4e1e142d663 xlp4_2 kz30 | omega)
            have nz32 : (vp_nar .byte z23) = z11 := nar_z ez23 (by (first | exact om_5fc390493b69 f13 | omega))
            have ef29 : V24 10 = upd (V3 10) kg z11 := by rw [up2_fn hV24, up2_fo hV21 (by decide), en31, nz32]
            exact ihlp4 (j) (kg + 1) z26 V24 H locs ls (by (first | exact om_0850c42f4b69 klp4_0.2 f8 hz26 | omega)) (show z26.toInt = 8 * ((j : Nat) : Int) - 8 from by (first | exact om_4b5c81c165b1 xlp4_0 hz26 | omega)) (show j ≤ 8 from by (first | exact om_6ecf95dc7ca7 klp4_0.2 xlp4_0 | omega)) (show (V24 6 5).toInt = ((kg + 1 : Nat) : Int) from by (first | exact om_064febd7b2a5 xlp4_2 hz20 pq28 | omega)) (show kg + 1 ≤ 4000 from by (first | exact om_39fe2737fdae xlp4_2 f19 | omega)) (by rw [← xlp4_4]; show _ = apk j p0 (stp (sgc p0 (shv (j + 1))) kg); rw [← ey, ← es, stp_i (by omega) (by omega)]) (by rw [ef29, ← xlp4_5]; show _ = apF sgc j p0 (stp (sgc p0 (shv (j + 1))) kg) (wrF (sgc p0 (shv (j + 1))) kg (V3 10)); rw [← ey, ← es, stp_i (by omega) (by omega), wrF_i (by omega) (by omega)]) (by (first | exact om_74a39192ceaa hn hz26 | omega)) (agr.up (agr.up (agr.tr agr.rf ajV3 (by decide) (by decide)) hV21 rfl) hV24 rfl) hMV24 hP hD hS (lv_sub hl [0, 3, 4] rfl)
        · skip
          have f33 : z11.toInt ≠ 10 := b_neq rfl (by decide) c12
          refine lv_iload hx hb dX9_append_24 (lv_at hl 0 rfl) ?_
          refine lv_bipush (v := 32) hx hb dX9_append_26 (by decide) ?_
          refine lv_icmp_lt (tgt := 42) hx hb dX9_append_28 (by decide) (fun c34 => ?_) (fun c34 => ?_)
          · skip
            have f35 : z11.toInt < 32 := b_lt rfl (by decide) c34
            refine lv_iconst (v := 0) hx hb dX9_append_42 (by decide) ?_
            refine lv_istore (lv' := [(5, .int 0), (4, .int z11), (3, .int y2), (0, .ref (ad 6)), (1, .long p0)]) hx hb dX9_append_43 hl (by decide) rfl (fun ls hl => ?_)
            refine lv_iload hx hb dX9_append_45 (lv_at hl 0 rfl) ?_
            refine lv_if_eq (tgt := 79) hx hb dX9_append_47 (by decide) (fun _ => ?_) (fun q => absurd (by decide) q)
            obtain ⟨z36, ez36⟩ : ∃ y : Int32, y = y2 + (-8) := ⟨_, rfl⟩
            have hz36 : z36.toInt = y2.toInt + (-8) := i_add ez36 rfl (by decide) (by (first | exact om_cd1367a02e57 klp4_0.2 f8 | omega))
            refine lv_iinc (v := z36) (lv' := [(3, .int z36), (5, .int 0), (4, .int z11), (0, .ref (ad 6)), (1, .long p0)]) hx hb dX9_append_79 hl (k := 2) rfl (by rw [ez36]; rfl) (by decide) rfl (fun ls hl => ?_)
            refine lv_goto (tgt := 3) hx hb dX9_append_82 (by decide) ?_
            have r37 : Int32.toInt 0 = 0 := by decide
            have ef38 : V3 10 = V3 10 := rfl
            exact ihlp4 (j) (kg) z36 V3 H locs ls (by (first | exact om_0850c42f4b69 klp4_0.2 f8 hz36 | omega)) (show z36.toInt = 8 * ((j : Nat) : Int) - 8 from by (first | exact om_4b5c81c165b1 xlp4_0 hz36 | omega)) (show j ≤ 8 from by (first | exact om_6ecf95dc7ca7 klp4_0.2 xlp4_0 | omega)) (show (V3 6 5).toInt = ((kg : Nat) : Int) from by (first | exact om_08e0c9701055 xlp4_2 | omega)) (show kg ≤ 4000 from by (first | exact om_af64e361c991 xlp4_3 | omega)) (by rw [← xlp4_4]; show _ = apk j p0 (stp (sgc p0 (shv (j + 1))) kg); rw [← ey, ← es, stp_j (by omega)]) (by rw [ef38, ← xlp4_5]; show _ = apF sgc j p0 (stp (sgc p0 (shv (j + 1))) kg) (wrF (sgc p0 (shv (j + 1))) kg (V3 10)); rw [← ey, ← es, stp_j (by omega), wrF_j (by omega)]) (by (first | exact om_74a39192ceaa hn hz36 | omega)) (agr.tr agr.rf ajV3 (by decide) (by decide)) hMV3 hP hD hS (lv_sub hl [0, 3, 4] rfl)
          · skip
            have f39 : 32 ≤ z11.toInt := b_nlt rfl (by decide) c34
            refine lv_iload hx hb dX9_append_31 (lv_at hl 0 rfl) ?_
            refine lv_bipush (v := 126) hx hb dX9_append_33 (by decide) ?_
            refine lv_icmp_gt (tgt := 42) hx hb dX9_append_35 (by decide) (fun c40 => ?_) (fun c40 => ?_)
            · skip
              have f41 : 126 < z11.toInt := b_lt (by decide) rfl c40
              refine lv_iconst (v := 0) hx hb dX9_append_42 (by decide) ?_
              refine lv_istore (lv' := [(5, .int 0), (4, .int z11), (3, .int y2), (0, .ref (ad 6)), (1, .long p0)]) hx hb dX9_append_43 hl (by decide) rfl (fun ls hl => ?_)
              refine lv_iload hx hb dX9_append_45 (lv_at hl 0 rfl) ?_
              refine lv_if_eq (tgt := 79) hx hb dX9_append_47 (by decide) (fun _ => ?_) (fun q => absurd (by decide) q)
              obtain ⟨z42, ez42⟩ : ∃ y : Int32, y = y2 + (-8) := ⟨_, rfl⟩
              have hz42 : z42.toInt = y2.toInt + (-8) := i_add ez42 rfl (by decide) (by (first | exact om_cd1367a02e57 klp4_0.2 f8 | omega))
              refine lv_iinc (v := z42) (lv' := [(3, .int z42), (5, .int 0), (4, .int z11), (0, .ref (ad 6)), (1, .long p0)]) hx hb dX9_append_79 hl (k := 2) rfl (by rw [ez42]; rfl) (by decide) rfl (fun ls hl => ?_)
              refine lv_goto (tgt := 3) hx hb dX9_append_82 (by decide) ?_
              have r43 : Int32.toInt 0 = 0 := by decide
              have ef44 : V3 10 = V3 10 := rfl
              exact ihlp4 (j) (kg) z42 V3 H locs ls (by (first | exact om_0850c42f4b69 klp4_0.2 f8 hz42 | omega)) (show z42.toInt = 8 * ((j : Nat) : Int) - 8 from by (first | exact om_4b5c81c165b1 xlp4_0 hz42 | omega)) (show j ≤ 8 from by (first | exact om_6ecf95dc7ca7 klp4_0.2 xlp4_0 | omega)) (show (V3 6 5).toInt = ((kg : Nat) : Int) from by (first | exact om_08e0c9701055 xlp4_2 | omega)) (show kg ≤ 4000 from by (first | exact om_af64e361c991 xlp4_3 | omega)) (by rw [← xlp4_4]; show _ = apk j p0 (stp (sgc p0 (shv (j + 1))) kg); rw [← ey, ← es, stp_j (by omega)]) (by rw [ef44, ← xlp4_5]; show _ = apF sgc j p0 (stp (sgc p0 (shv (j + 1))) kg) (wrF (sgc p0 (shv (j + 1))) kg (V3 10)); rw [← ey, ← es, stp_j (by omega), wrF_j (by omega)]) (by (first | exact om_74a39192ceaa hn hz42 | omega)) (agr.tr agr.rf ajV3 (by decide) (by decide)) hMV3 hP hD hS (lv_sub hl [0, 3, 4] rfl)
            · skip
              have f45 : z11.toInt ≤ 126 := b_nlt (by decide) rfl c40
              refine lv_iconst (v := 1) hx hb dX9_append_38 (by decide) ?_
              refine lv_goto (tgt := 43) hx hb dX9_append_39 (by decide) ?_
              refine lv_istore (lv' := [(5, .int 1), (4, .int z11), (3, .int y2), (0, .ref (ad 6)), (1, .long p0)]) hx hb dX9_append_43 hl (by decide) rfl (fun ls hl => ?_)
              refine lv_iload hx hb dX9_append_45 (lv_at hl 0 rfl) ?_
              refine lv_if_eq (tgt := 79) hx hb dX9_append_47 (by decide) (fun q => absurd q (by decide)) (fun _ => ?_)
              refine lv_aload_n hx hb dX9_append_50 rfl (lv_at hl 3 rfl) ?_
              refine va_get (D := D) (ci := 9) (v := .int (V3 6 5)) (fs := (xfTape ad V3 L Z)) (C := RX9) (T := TX9) (N := 12) hx hb hg inX9 hown hK hP 6 xgTape rfl 5 (by decide) (hg _ w258) (fun _ h9 => h9) rfl dX9_append_51 ?_
              refine lv_sipush (v := 4000) hx hb dX9_append_54 (by decide) ?_
              refine lv_icmp_ge (tgt := 79) hx hb dX9_append_57 (by decide) (fun c46 => ?_) (fun c46 => ?_)
              · skip
                have f47 : 4000 ≤ ((V3 6 5)).toInt := b_le (by decide) rfl c46
                obtain ⟨z48, ez48⟩ : ∃ y : Int32, y = y2 + (-8) := ⟨_, rfl⟩
                have hz48 : z48.toInt = y2.toInt + (-8) := i_add ez48 rfl (by decide) (by (first | exact om_cd1367a02e57 klp4_0.2 f8 | omega))
                refine lv_iinc (v := z48) (lv' := [(3, .int z48), (5, .int 1), (4, .int z11), (0, .ref (ad 6)), (1, .long p0)]) hx hb dX9_append_79 hl (k := 2) rfl (by rw [ez48]; rfl) (by decide) rfl (fun ls hl => ?_)
                refine lv_goto (tgt := 3) hx hb dX9_append_82 (by decide) ?_
                have r49 : Int32.toInt 1 = 1 := by decide
                have ef50 : V3 10 = V3 10 := rfl
                exact ihlp4 (j) (kg) z48 V3 H locs ls (by (first | exact om_0850c42f4b69 klp4_0.2 f8 hz48 | omega)) (show z48.toInt = 8 * ((j : Nat) : Int) - 8 from by (first | exact om_4b5c81c165b1 xlp4_0 hz48 | omega)) (show j ≤ 8 from by (first | exact om_6ecf95dc7ca7 klp4_0.2 xlp4_0 | omega)) (show (V3 6 5).toInt = ((kg : Nat) : Int) from by (first | exact om_e4dc208c913d xlp4_2 xlp4_3 f47 | omega)) (show kg ≤ 4000 from by (first | exact om_af64e361c991 xlp4_3 | omega)) (by rw [← xlp4_4]; show _ = apk j p0 (stp (sgc p0 (shv (j + 1))) kg); rw [← ey, ← es, stp_j (by omega)]) (by rw [ef50, ← xlp4_5]; show _ = apF sgc j p0 (stp (sgc p0 (shv (j + 1))) kg) (wrF (sgc p0 (shv (j + 1))) kg (V3 10)); rw [← ey, ← es, stp_j (by omega), wrF_j (by omega)]) (by (first | exact om_74a39192ceaa hn hz48 | omega)) (agr.tr agr.rf ajV3 (by decide) (by decide)) hMV3 hP hD hS (lv_sub hl [0, 3, 4] rfl)
              · skip
                have f51 : ((V3 6 5)).toInt < 4000 := b_nle (by decide) rfl c46
                refine lv_aload_n hx hb dX9_append_60 rfl (lv_at hl 3 rfl) ?_
                refine va_get (D := D) (ci := 9) (v := .ref (ad 7)) (fs := (xfTape ad V3 L Z)) (C := RX9) (T := TX9) (N := 12) hx hb hg inX9 hown hK hP 6 xgTape rfl 0 (by decide) (hg _ w252) (fun _ h9 => h9) rfl dX9_append_61 ?_
                refine lv_aload_n hx hb dX9_append_64 rfl (lv_at hl 3 rfl) ?_
                refine lv_dup hx hb dX9_append_65 rfl ?_
                refine va_get (D := D) (ci := 9) (v := .int (V3 6 5)) (fs := (xfTape ad V3 L Z)) (C := RX9) (T := TX9) (N := 12) hx hb hg inX9 hown hK hP 6 xgTape rfl 5 (by decide) (hg _ w258) (fun _ h9 => h9) rfl dX9_append_66 ?_
                refine lv_dup_x1 hx hb dX9_append_69 rfl rfl ?_
                refine lv_iconst (v := 1) hx hb dX9_append_70 (by decide) ?_
                refine lv_iadd hx hb dX9_append_71 ?_
                refine lv_topi (fun z52 ez52 => ?_)
                have hz52 : z52.toInt = ((V3 6 5)).toInt + 1 := i_add ez52 rfl (by decide) (by (first | exact om_67c6ad613360 r5.1 f51 | omega))
                refine va_put (D := D) (ci := 9) (v := .int z52) (ty := tyX9 5) (fs := (xfTape ad V3 L Z)) (C := RX9) (T := TX9) (N := 12) hx hb hg inX9 tyX9 tyX9_ok nmX9 hown hK hP hD hS 6 xgTape rfl 5 (by decide) (hg _ w258) (fun _ h9 => h9) rfl (tyX9_ok 5 (by decide)) rfl rfl (Nat.le_of_ble_eq_true rfl) dX9_append_72 (fun H locs hP hD hS => ?_)
                obtain ⟨V53, hV53⟩ : ∃ z, z = up2 V3 6 5 z52 := ⟨_, rfl⟩
                have ew54 : (xw ad kk V3 L Z).set 6 ((ad 6), .inr (9, (xfTape ad V3 L Z).set 5 (.int z52))) = xw ad kk V53 L Z := by rw [hV53]; exact xw_ss (by decide) rfl (xb_si (by decide))
                have hP : va_P D vwCl (xw ad kk V53 L Z) H := by rw [← ew54]; exact hP
                have hD : va_D A (xw ad kk V53 L Z) := by rw [← ew54]; exact hD
                have hMV53 : rgd bX V53 := hMV3.put hV53 (show 0 ≤ z52.toInt ∧ z52.toInt ≤ 4000 from by (first | exact om_44a0a3faffcf r5.1 f51 hz52 | omega))
                have agV53 : agr [(6, 5)] [10] V V53 := agV3.up hV53 rfl
                refine lv_iload hx hb dX9_append_75 (lv_at hl 1 rfl) ?_
                refine lv_i2b hx hb dX9_append_77 rfl ?_
                refine lv_topi (fun z55 ez55 => ?_)
                refine va_bast (D := D) (i := (V3 6 5)) (x := z55) hx hb hK hP hD hS 7 0 rfl rfl (i_in (a := ((V3 6 5)).toInt) rfl (by (first | exact om_644c9ac25911 r5.1 f51 | omega))) dX9_append_78 (fun H locs hP hD hS => ?_)
                obtain ⟨V56, hV56⟩ : ∃ z, z = up2 V53 10 (Int32.toNatClampNeg (V3 6 5)) (vp_nar .byte z55) := ⟨_, rfl⟩
                have ew57 : (xw ad kk V53 L Z).set 7 ((ad 7), .inl ((kk 7), 4000, .inl (upd (V53 10) (Int32.toNatClampNeg (V3 6 5)) (vp_nar .byte z55)))) = xw ad kk V56 L Z := by rw [hV56]; exact xw_ss (by decide) rfl (xb_si (by decide))
                have hP : va_P D vwCl (xw ad kk V56 L Z) H := by rw [← ew57]; exact hP
                have hD : va_D A (xw ad kk V56 L Z) := by rw [← ew57]; exact hD
                have hMV56 : rgd bX V56 := hMV53.put hV56 (i_full _)
                have agV56 : agr [(6, 5)] [10] V V56 := agV53.up hV56 rfl
                obtain ⟨z58, ez58⟩ : ∃ y : Int32, y = y2 + (-8) := ⟨_, rfl⟩
                have hz58 : z58.toInt = y2.toInt + (-8) := i_add ez58 rfl (by decide) (by (first | exact om_cd1367a02e57 klp4_0.2 f8 | omega))
                refine lv_iinc (v := z58) (lv' := [(3, .int z58), (5, .int 1), (4, .int z11), (0, .ref (ad 6)), (1, .long p0)]) hx hb dX9_append_79 hl (k := 2) rfl (by rw [ez58]; rfl) (by decide) rfl (fun ls hl => ?_)
                refine lv_goto (tgt := 3) hx hb dX9_append_82 (by decide) ?_
                have r59 : Int32.toInt 1 = 1 := by decide
                have pq60 : (V56 6 5).toInt = z52.toInt := congrArg Int32.toInt ((up2_o hV56 (by decide)).trans (up2_s hV53))
                have kz62 := i_clamp (x := (V3 6 5)) rfl (by (first | exact om_eafa9039069c r5.1 | omega))
                have en63 : (Int32.toNatClampNeg (V3 6 5)) = kg := by (first | exact om_c4e1e142d663 xlp4_2 kz62 | omega)
                have nz64 : (vp_nar .byte z55) = z11 := nar_z ez55 (by (first | exact om_38eb67141eac f39 f45 | omega))
                have ef61 : V56 10 = upd (V3 10) kg z11 := by rw [up2_fn hV56, up2_fo hV53 (by decide), en63, nz64]
                exact ihlp4 (j) (kg + 1) z58 V56 H locs ls (by (first | exact om_0850c42f4b69 klp4_0.2 f8 hz58 | omega)) (show z58.toInt = 8 * ((j : Nat) : Int) - 8 from by (first | exact om_4b5c81c165b1 xlp4_0 hz58 | omega)) (show j ≤ 8 from by (first | exact om_6ecf95dc7ca7 klp4_0.2 xlp4_0 | omega)) (show (V56 6 5).toInt = ((kg + 1 : Nat) : Int) from by (first | exact om_064febd7b2a5 xlp4_2 hz52 pq60 | omega)) (show kg + 1 ≤ 4000 from by (first | exact om_39fe2737fdae xlp4_2 f51 | omega)) (by rw [← xlp4_4]; show _ = apk j p0 (stp (sgc p0 (shv (j + 1))) kg); rw [← ey, ← es, stp_i (by omega) (by omega)]) (by rw [ef61, ← xlp4_5]; show _ = apF sgc j p0 (stp (sgc p0 (shv (j + 1))) kg) (wrF (sgc p0 (shv (j + 1))) kg (V3 10)); rw [← ey, ← es, stp_i (by omega) (by omega), wrF_i (by omega) (by omega)]) (by (first | exact om_74a39192ceaa hn hz58 | omega)) (agr.up (agr.up (agr.tr agr.rf ajV3 (by decide) (by decide)) hV53 rfl) hV56 rfl) hMV56 hP hD hS (lv_sub hl [0, 3, 4] rfl)
  have r65 : Int32.toInt 56 = 56 := by decide
  exact lp4 (((Int32.toInt 56) + 8 + 1 : Int).toNat) (8) (k0) 56 V H locs ls (by decide) (show (Int32.toInt 56) = 8 * ((8 : Nat) : Int) - 8 from by (first | exact om_5096ece6e03a r65 | omega)) (show 8 ≤ 8 from by omega) (show (V 6 5).toInt = ((k0 : Nat) : Int) from by (first | exact om_08e0c9701055 y1 | omega)) (show k0 ≤ 4000 from by (first | exact om_4bc1f7c5a8a4 y1 r1.2 | omega)) rfl rfl (by (first | exact om_ab6338ba1c2d | omega)) agr.rf hMV hP hD hS (lv_sub hl [0, 1, 2] rfl)
abbrev r_x_h_feed3 : Room := { frames := 1, cells := 0, slots := 0, locals := 25 }
abbrev q_x_h_feed3 (D : va_G) (ks : KS) (ad : Nat → Nat) (kk : Nat → ClassId) (V : Vf) (L : Lf) (Z : XZ) (p0 : Int64) (p1 : Int64) (p2 : Int64) (k0 : Nat) (A : Nat → Prop) : Array Value → State → Outcome → State → Prop := va_Qi (fun (r : Int32) (u : Vf × Lf) => rgd bX u.1 ∧ agr [(6, 5)] [10] V u.1 ∧ u.2 = L ∧ (r.toInt = ((apk 8 p2 (apk 8 p1 (apk 8 p0 k0)) : Nat) : Int)) ∧ ((u.1 6 5).toInt = ((apk 8 p2 (apk 8 p1 (apk 8 p0 k0)) : Nat) : Int)) ∧ ((u.1 10) = apF sgc 8 p2 (apk 8 p1 (apk 8 p0 k0)) (apF sgc 8 p1 (apk 8 p0 k0) (apF sgc 8 p0 k0 (V 10))))) (fun u t => gq D A (xw ad kk u.1 u.2 Z) (xty kk Z) t) A
set_option maxHeartbeats 4000000 in
set_option maxRecDepth 100000 in
theorem x_h_feed3 (l : Launch) (D : va_G) (ks : KS) (sz : Nat) (ad : Nat → Nat) (kk : Nat → ClassId) (V : Vf) (L : Lf) (Z : XZ) (p0 : Int64) (p1 : Int64) (p2 : Int64) (k0 : Nat) (hMV : rgd bX V) (y1 : (V 6 5).toInt = (k0 : Int))  : Met l yX11_feed (Cond.code yX11_feed cX11_feed 7 (some .int) :: GW) r_x_h_feed3 (va_Pc [.ref (ad 0), .long p0, .long p1, .long p2] (gp D ks (xw ad kk V L Z) (xty kk Z) sz)) (q_x_h_feed3 D ks ad kk V L Z p0 p1 p2 k0 (va_A (xw ad kk V L Z) sz)) 0 0 (va_A (xw ad kk V L Z) sz) := by
  refine g_met (q_x_h_feed3 D ks ad kk V L Z p0 p1 p2 k0) (by decide) (Nat.le_of_ble_eq_true rfl) ?_
  intro p e s m below meth c A ls H locs hx hb hr hml hown hg hlocks hin hnw hgk hP hK hD hS hA hl
  have hown : s.vm.findClass RX11 = some m.cls := hown
  have hl : lv_has ls 7 [(0, .ref (ad 0)), (1, .long p0), (3, .long p1), (5, .long p2)] := hl
  have hP : va_P D vwCl (xw ad kk V L Z) H := hP
  have hD : va_D A (xw ad kk V L Z) := hD
  have hK : va_K D vwCl (xty kk Z) s := hK
  have agV : agr [(6, 5)] [10] V V := agr.rf
  have r1 : 0 ≤ ((V 6 5)).toInt ∧ ((V 6 5)).toInt ≤ 4000 := hMV 6 5
  refine lv_aload_n hx hb dX11_feed_0 rfl (lv_at hl 0 rfl) ?_
  refine va_get (D := D) (ci := 11) (v := .ref (ad 6)) (fs := (xfHouse ad V L Z)) (C := RX11) (T := TX11) (N := 10) hx hb hg inX11 hown hK hP 0 xgHouse rfl 0 (by decide) (hg _ w715) (fun _ h9 => h9) rfl dX11_feed_1 ?_
  refine lv_lload_n hx hb dX11_feed_4 rfl (lv_at hl 1 rfl) ?_
  refine gA_void (gA_runV (As := [.long p0]) (rest := []) (ci := 9) (q0 := 6) hx hb hml hown hg hP hD hK hS hA hnw hgk (x_append2 l D ks H.size ad kk V L Z p0 (k0) hMV (show (V 6 5).toInt = (k0 : Int) from by (first | exact om_08e0c9701055 y1 | omega))) w750 w751 w752 w157 w753 rfl xgTape hdV_yX9_append ⟨Nat.le_of_ble_eq_true rfl, Nat.le_of_ble_eq_true rfl⟩ rfl hl.1 rfl (Nat.le_of_ble_eq_true rfl) dX11_feed_5 ⟨Nat.le_of_ble_eq_true rfl, Nat.le_of_ble_eq_true rfl⟩) hP hD hK hS hA (fun u3 H locs w4 hP hD hK hS => ?_)
  obtain ⟨V7, L8⟩ := u3
  obtain ⟨hMV7, ajV7, axL8, t5, t6⟩ := w4
  have axL8 : L = L8 := Eq.symm axL8
  subst axL8
  have hP : va_P D vwCl (xw ad kk V7 L Z) H := hP
  have hD : va_D A (xw ad kk V7 L Z) := hD
  have hMV7 : rgd bX V7 := hMV7
  have ajV7 : agr [(6, 5)] [10] V V7 := ajV7
  have agV7 : agr [(6, 5)] [10] V V7 := agV.tr ajV7 (by decide) (by decide)
  have t5 : (V7 6 5).toInt = ((apk 8 p0 k0 : Nat) : Int) := t5
  have t6 : (V7 10) = apF sgc 8 p0 k0 (V 10) := t6
  have r9 : 0 ≤ ((V7 6 5)).toInt ∧ ((V7 6 5)).toInt ≤ 4000 := hMV7 6 5
  refine lv_aload_n hx hb dX11_feed_8 rfl (lv_at hl 0 rfl) ?_
  refine va_get (D := D) (ci := 11) (v := .ref (ad 6)) (fs := (xfHouse ad V7 L Z)) (C := RX11) (T := TX11) (N := 10) hx hb hg inX11 hown hK hP 0 xgHouse rfl 0 (by decide) (hg _ w715) (fun _ h9 => h9) rfl dX11_feed_9 ?_
  refine lv_lload_n hx hb dX11_feed_12 rfl (lv_at hl 2 rfl) ?_
  refine gA_void (gA_runV (As := [.long p1]) (rest := []) (ci := 9) (q0 := 6) hx hb hml hown hg hP hD hK hS hA hnw hgk (x_append2 l D ks H.size ad kk V7 L Z p1 (apk 8 p0 k0) hMV7 (show (V7 6 5).toInt = ((apk 8 p0 k0) : Int) from by (first | exact om_08e0c9701055 t5 | omega))) w750 w751 w752 w157 w753 rfl xgTape hdV_yX9_append ⟨Nat.le_of_ble_eq_true rfl, Nat.le_of_ble_eq_true rfl⟩ rfl hl.1 rfl (Nat.le_of_ble_eq_true rfl) dX11_feed_13 ⟨Nat.le_of_ble_eq_true rfl, Nat.le_of_ble_eq_true rfl⟩) hP hD hK hS hA (fun u11 H locs w12 hP hD hK hS => ?_)
  obtain ⟨V15, L16⟩ := u11
  obtain ⟨hMV15, ajV15, axL16, t13, t14⟩ := w12
  have axL16 : L = L16 := Eq.symm axL16
  subst axL16
  have hP : va_P D vwCl (xw ad kk V15 L Z) H := hP
  have hD : va_D A (xw ad kk V15 L Z) := hD
  have hMV15 : rgd bX V15 := hMV15
  have ajV15 : agr [(6, 5)] [10] V7 V15 := ajV15
  have agV15 : agr [(6, 5)] [10] V V15 := agV7.tr ajV15 (by decide) (by decide)
  have t13 : (V15 6 5).toInt = ((apk 8 p1 (apk 8 p0 k0) : Nat) : Int) := t13
  have t14 : (V15 10) = apF sgc 8 p1 (apk 8 p0 k0) (V7 10) := t14
  have r17 : 0 ≤ ((V15 6 5)).toInt ∧ ((V15 6 5)).toInt ≤ 4000 := hMV15 6 5
  refine lv_aload_n hx hb dX11_feed_16 rfl (lv_at hl 0 rfl) ?_
  refine va_get (D := D) (ci := 11) (v := .ref (ad 6)) (fs := (xfHouse ad V15 L Z)) (C := RX11) (T := TX11) (N := 10) hx hb hg inX11 hown hK hP 0 xgHouse rfl 0 (by decide) (hg _ w715) (fun _ h9 => h9) rfl dX11_feed_17 ?_
  refine lv_lload hx hb dX11_feed_20 (lv_at hl 3 rfl) ?_
  refine gA_void (gA_runV (As := [.long p2]) (rest := []) (ci := 9) (q0 := 6) hx hb hml hown hg hP hD hK hS hA hnw hgk (x_append2 l D ks H.size ad kk V15 L Z p2 (apk 8 p1 (apk 8 p0 k0)) hMV15 (show (V15 6 5).toInt = ((apk 8 p1 (apk 8 p0 k0)) : Int) from by (first | exact om_08e0c9701055 t13 | omega))) w750 w751 w752 w157 w753 rfl xgTape hdV_yX9_append ⟨Nat.le_of_ble_eq_true rfl, Nat.le_of_ble_eq_true rfl⟩ rfl hl.1 rfl (Nat.le_of_ble_eq_true rfl) dX11_feed_22 ⟨Nat.le_of_ble_eq_true rfl, Nat.le_of_ble_eq_true rfl⟩) hP hD hK hS hA (fun u19 H locs w20 hP hD hK hS => ?_)
  obtain ⟨V23, L24⟩ := u19
  obtain ⟨hMV23, ajV23, axL24, t21, t22⟩ := w20
  have axL24 : L = L24 := Eq.symm axL24
  subst axL24
  have hP : va_P D vwCl (xw ad kk V23 L Z) H := hP
  have hD : va_D A (xw ad kk V23 L Z) := hD
  have hMV23 : rgd bX V23 := hMV23
  have ajV23 : agr [(6, 5)] [10] V15 V23 := ajV23
  have agV23 : agr [(6, 5)] [10] V V23 := agV15.tr ajV23 (by decide) (by decide)
  have t21 : (V23 6 5).toInt = ((apk 8 p2 (apk 8 p1 (apk 8 p0 k0)) : Nat) : Int) := t21
  have t22 : (V23 10) = apF sgc 8 p2 (apk 8 p1 (apk 8 p0 k0)) (V15 10) := t22
  have r25 : 0 ≤ ((V23 6 5)).toInt ∧ ((V23 6 5)).toInt ≤ 4000 := hMV23 6 5
  refine lv_aload_n hx hb dX11_feed_25 rfl (lv_at hl 0 rfl) ?_
  refine va_get (D := D) (ci := 11) (v := .ref (ad 6)) (fs := (xfHouse ad V23 L Z)) (C := RX11) (T := TX11) (N := 10) hx hb hg inX11 hown hK hP 0 xgHouse rfl 0 (by decide) (hg _ w715) (fun _ h9 => h9) rfl dX11_feed_26 ?_
  refine va_getN (D := D) (ci := 9) (v := .int (V23 6 5)) (fs := (xfTape ad V23 L Z)) (C := RX9) (T := TX9) (N := 12) hx hb hg inX9 hown hK hP 6 xgTape rfl 5 (by decide) (hnw.use 257 n257 rfl) (fun _ h9 => h9) rfl dX11_feed_29 ?_
  have rp26 : V23 10 = apF sgc 8 p2 (apk 8 p1 (apk 8 p0 k0)) (apF sgc 8 p1 (apk 8 p0 k0) (apF sgc 8 p0 k0 (V 10))) := by rw [t22, t14, t6]
  exact W.iret (v := (V23 6 5)) hx hb hr (fun t ht hW => ⟨⟨(V23 6 5), (V23, L), rfl, ⟨hMV23, agV23, rfl, (show ((V23 6 5)).toInt = ((apk 8 p2 (apk 8 p1 (apk 8 p0 k0)) : Nat) : Int) from by (first | exact om_08e0c9701055 t21 | omega)), (show (V23 6 5).toInt = ((apk 8 p2 (apk 8 p1 (apk 8 p0 k0)) : Nat) : Int) from by (first | exact om_08e0c9701055 t21 | omega)), rp26⟩, by rw [ht]; exact hP, va_K.moved hW.alike hK, hD⟩, hS.F ht⟩) hS.2.2 dX11_feed_32
abbrev r_s_lay2 : Room := { frames := 0, cells := 0, slots := 0, locals := 0 }
abbrev q_s_lay2 (D : va_G) (ks : KS) (ad : Nat → Nat) (kk : Nat → ClassId) (V : Vf) (L : Lf) (p0 : Int64) (k0 : Nat) (A : Nat → Prop) : Array Value → State → Outcome → State → Prop := va_Qv (fun (u : Vf × Lf) => rgd bM u.1 ∧ agr [(0, 2)] [1] V u.1 ∧ u.2 = L ∧ ((u.1 0 2).toInt = ((apm 8 p0 k0 : Nat) : Int)) ∧ ((u.1 1) = apF sgm 8 p0 k0 (V 1))) (fun u t => gq D A (mw ad kk ks.1 u.1 u.2) (mty kk) t) A
set_option maxHeartbeats 4000000 in
set_option maxRecDepth 100000 in
theorem s_lay2 (l : Launch) (D : va_G) (ks : KS) (sz : Nat) (ad : Nat → Nat) (kk : Nat → ClassId) (V : Vf) (L : Lf) (p0 : Int64) (k0 : Nat) (hMV : rgd bM V) (y1 : (V 0 2).toInt = (k0 : Int))  : Met l yX12_lay (Cond.code yX12_lay cX12_lay 5 none :: GW) r_s_lay2 (va_Pc [.ref (ad 0), .long p0] (gp D ks (mw ad kk ks.1 V L) (mty kk) sz)) (q_s_lay2 D ks ad kk V L p0 k0 (va_A (mw ad kk ks.1 V L) sz)) 0 0 (va_A (mw ad kk ks.1 V L) sz) := by
  refine g_met (q_s_lay2 D ks ad kk V L p0 k0) (by decide) (Nat.le_of_ble_eq_true rfl) ?_
  intro p e s m below meth c A ls H locs hx hb hr hml hown hg hlocks hin hnw hgk hP hK hD hS hA hl
  have hown : s.vm.findClass RX12 = some m.cls := hown
  have hl : lv_has ls 5 [(0, .ref (ad 0)), (1, .long p0)] := hl
  have hP : va_P D vwCl (mw ad kk ks.1 V L) H := hP
  have hD : va_D A (mw ad kk ks.1 V L) := hD
  have hK : va_K D vwCl (mty kk) s := hK
  have agV : agr [(0, 2)] [1] V V := agr.rf
  have r1 : 0 ≤ ((V 0 2)).toInt ∧ ((V 0 2)).toInt ≤ 4000 := hMV 0 2
  refine lv_bipush (v := 56) hx hb dX12_lay_0 (by decide) ?_
  refine lv_istore_n (lv' := [(3, .int 56), (0, .ref (ad 0)), (1, .long p0)]) hx hb dX12_lay_2 rfl hl (by decide) rfl (fun ls hl => ?_)
  have lp4 : ∀ (fulp4 : Nat) (jg : Nat) (kg : Nat) (y2 : Int32) (V3 : Vf) (H : Heap) (locs : List Loc) (ls : Array Slot), (-8) ≤ y2.toInt ∧ y2.toInt ≤ 56 → y2.toInt = 8 * ((jg : Nat) : Int) - 8 → jg ≤ 8 → (V3 0 2).toInt = ((kg : Nat) : Int) → kg ≤ 4000 → apm jg p0 kg = apm 8 p0 k0 → apF sgm jg p0 kg (V3 1) = apF sgm 8 p0 k0 (V 1) → y2.toInt + 8 < (fulp4 : Int) → agr [(0, 2)] [1] V V3 → rgd bM V3 → va_P D vwCl (mw ad kk ks.1 V3 L) H → va_D A (mw ad kk ks.1 V3 L) → va_S A s.heap H locs → lv_has ls 5 [(3, .int y2), (0, .ref (ad 0)), (1, .long p0)] → W p l e r_s_lay2 s m ([.ref (ad 0), .long p0] : List Value).toArray below meth c H locs 0 0 (MQ below (q_s_lay2 D ks ad kk V L p0 k0 A) ([.ref (ad 0), .long p0] : List Value).toArray s 0 0 A) (F0 m 3 ls []) := by
    intro fulp4
    induction fulp4 with
    | zero =>
      intro jg kg y2 V3 H locs ls klp4_0 xlp4_0 xlp4_1 xlp4_2 xlp4_3 xlp4_4 xlp4_5 hn ajV3 hMV3 hP hD hS hl
      exfalso; (first | exact om_d27d73e3ac80 klp4_0.1 hn | omega)
    | succ fulp4 ihlp4 =>
      intro jg kg y2 V3 H locs ls klp4_0 xlp4_0 xlp4_1 xlp4_2 xlp4_3 xlp4_4 xlp4_5 hn ajV3 hMV3 hP hD hS hl
      have agV3 : agr [(0, 2)] [1] V V3 := agV.tr ajV3 (by decide) (by decide)
      have r5 : 0 ≤ ((V3 0 2)).toInt ∧ ((V3 0 2)).toInt ≤ 4000 := hMV3 0 2
      refine lv_iload_n hx hb dX12_lay_3 rfl (lv_at hl 0 rfl) ?_
      refine lv_if_lt (tgt := 75) hx hb dX12_lay_4 (by decide) (fun c6 => ?_) (fun c6 => ?_)
      · skip
        have f7 : y2.toInt < 0 := b_lt rfl (by decide) c6
        exact W.vret hx hb hr (fun t ht hW => ⟨⟨(V3, L), rfl, ⟨hMV3, agV3, rfl, (by have hz : jg = 0 := (by omega); subst hz; have hz2 : kg = apm 8 p0 k0 := xlp4_4; show (V3 0 2).toInt = _; rw [← hz2]; omega), (by have hz : jg = 0 := (by omega); subst hz; show V3 1 = _; exact xlp4_5)⟩, by rw [ht]; exact hP, va_K.moved hW.alike hK, hD⟩, hS.F ht⟩) hS.2.2 dX12_lay_75
      · skip
        have f8 : 0 ≤ y2.toInt := b_nlt rfl (by decide) c6
        obtain ⟨j, rfl⟩ : ∃ j, jg = j + 1 := ⟨jg - 1, by omega⟩
        refine lv_lload_n hx hb dX12_lay_7 rfl (lv_at hl 2 rfl) ?_
        refine lv_iload_n hx hb dX12_lay_8 rfl (lv_at hl 0 rfl) ?_
        refine lv_lshr hx hb dX12_lay_9 rfl ?_
        refine lv_topl (fun w9 ew9 => ?_)
        refine lv_l2i hx hb dX12_lay_10 rfl ?_
        refine lv_topi (fun z10 ez10 => ?_)
        refine lv_sipush (v := 255) hx hb dX12_lay_11 (by decide) ?_
        refine lv_iand hx hb dX12_lay_14 ?_
        refine lv_topi (fun z11 ez11 => ?_)
        have hz11 : 0 ≤ z11.toInt ∧ z11.toInt ≤ 255 := and_m ez11 (by decide)
        have es : z11 = sgm p0 y2 := by rw [ez11, ez10, ew9]; rfl
        have ey : y2 = shv (j + 1) := Int32.toInt_inj.mp (by rw [shv_toInt (j + 1) (by omega)]; omega)
        refine lv_istore (lv' := [(4, .int z11), (3, .int y2), (0, .ref (ad 0)), (1, .long p0)]) hx hb dX12_lay_15 hl (by decide) rfl (fun ls hl => ?_)
        refine lv_iload hx hb dX12_lay_17 (lv_at hl 0 rfl) ?_
        refine lv_bipush (v := 10) hx hb dX12_lay_19 (by decide) ?_
        refine lv_icmp_eq (tgt := 38) hx hb dX12_lay_21 (by decide) (fun c12 => ?_) (fun c12 => ?_)
        · skip
          have f13 : z11.toInt = 10 := b_eq rfl (by decide) c12
          refine lv_aload_n hx hb dX12_lay_38 rfl (lv_at hl 2 rfl) ?_
          refine va_get (D := D) (ci := 12) (v := .int (V3 0 2)) (C := RX12) (T := TX12) (N := 100) hx hb hg inX12 hown hK hP 0 rfl rfl 2 (by decide) (hg _ w1708) (fun _ h9 => h9) rfl dX12_lay_39 ?_
          refine lv_sipush (v := 4000) hx hb dX12_lay_42 (by decide) ?_
          refine lv_icmp_ge (tgt := 69) hx hb dX12_lay_45 (by decide) (fun c14 => ?_) (fun c14 => ?_)
          · skip
            have f15 : 4000 ≤ ((V3 0 2)).toInt := b_le (by decide) rfl c14
            obtain ⟨z16, ez16⟩ : ∃ y : Int32, y = y2 + (-8) := ⟨_, rfl⟩
            have hz16 : z16.toInt = y2.toInt + (-8) := i_add ez16 rfl (by decide) (by (first | exact om_cd1367a02e57 klp4_0.2 f8 | omega))
            refine lv_iinc (v := z16) (lv' := [(3, .int z16), (4, .int z11), (0, .ref (ad 0)), (1, .long p0)]) hx hb dX12_lay_69 hl (k := 1) rfl (by rw [ez16]; rfl) (by decide) rfl (fun ls hl => ?_)
            refine lv_goto (tgt := 3) hx hb dX12_lay_72 (by decide) ?_
            have ef17 : V3 1 = V3 1 := rfl
            exact ihlp4 (j) (kg) z16 V3 H locs ls (by (first | exact om_0850c42f4b69 klp4_0.2 f8 hz16 | omega)) (show z16.toInt = 8 * ((j : Nat) : Int) - 8 from by (first | exact om_4b5c81c165b1 xlp4_0 hz16 | omega)) (show j ≤ 8 from by (first | exact om_6ecf95dc7ca7 klp4_0.2 xlp4_0 | omega)) (show (V3 0 2).toInt = ((kg : Nat) : Int) from by (first | exact om_e4dc208c913d xlp4_2 xlp4_3 f15 | omega)) (show kg ≤ 4000 from by (first | exact om_af64e361c991 xlp4_3 | omega)) (by rw [← xlp4_4]; show _ = apm j p0 (stp (sgm p0 (shv (j + 1))) kg); rw [← ey, ← es, stp_j (by omega)]) (by rw [ef17, ← xlp4_5]; show _ = apF sgm j p0 (stp (sgm p0 (shv (j + 1))) kg) (wrF (sgm p0 (shv (j + 1))) kg (V3 1)); rw [← ey, ← es, stp_j (by omega), wrF_j (by omega)]) (by (first | exact om_74a39192ceaa hn hz16 | omega)) (agr.tr agr.rf ajV3 (by decide) (by decide)) hMV3 hP hD hS (lv_sub hl [0, 2, 3] rfl)
          · skip
            have f18 : ((V3 0 2)).toInt < 4000 := b_nle (by decide) rfl c14
            refine lv_aload_n hx hb dX12_lay_48 rfl (lv_at hl 2 rfl) ?_
            refine va_get (D := D) (ci := 12) (v := .ref (ad 1)) (C := RX12) (T := TX12) (N := 100) hx hb hg inX12 hown hK hP 0 rfl rfl 1 (by decide) (hg _ w1707) (fun _ h9 => h9) rfl dX12_lay_49 ?_
            refine lv_aload_n hx hb dX12_lay_52 rfl (lv_at hl 2 rfl) ?_
            refine va_get (D := D) (ci := 12) (v := .int (V3 0 2)) (C := RX12) (T := TX12) (N := 100) hx hb hg inX12 hown hK hP 0 rfl rfl 2 (by decide) (hg _ w1708) (fun _ h9 => h9) rfl dX12_lay_53 ?_
            refine lv_iload hx hb dX12_lay_56 (lv_at hl 0 rfl) ?_
            refine va_iast (D := D) (i := (V3 0 2)) (x := z11) hx hb hK hP hD hS 1 0 rfl rfl (i_in (a := ((V3 0 2)).toInt) rfl (by (first | exact om_644c9ac25911 r5.1 f18 | omega))) dX12_lay_58 (fun H locs hP hD hS => ?_)
            obtain ⟨V19, hV19⟩ : ∃ z, z = up2 V3 1 (Int32.toNatClampNeg (V3 0 2)) z11 := ⟨_, rfl⟩
            have hP : va_P D vwCl (mw ad kk ks.1 V19 L) H := by rw [hV19]; exact hP
            have hD : va_D A (mw ad kk ks.1 V19 L) := by rw [hV19]; exact hD
            have hMV19 : rgd bM V19 := hMV3.put hV19 (i_full _)
            have agV19 : agr [(0, 2)] [1] V V19 := agV3.up hV19 rfl
            refine lv_aload_n hx hb dX12_lay_59 rfl (lv_at hl 2 rfl) ?_
            refine lv_dup hx hb dX12_lay_60 rfl ?_
            refine va_get (D := D) (ci := 12) (v := .int (V19 0 2)) (C := RX12) (T := TX12) (N := 100) hx hb hg inX12 hown hK hP 0 rfl rfl 2 (by decide) (hg _ w1708) (fun _ h9 => h9) rfl dX12_lay_61 ?_
            refine g_top (v := (V3 0 2)) (up2_o hV19 (by decide)) ?_
            refine lv_iconst (v := 1) hx hb dX12_lay_64 (by decide) ?_
            refine lv_iadd hx hb dX12_lay_65 ?_
            refine lv_topi (fun z20 ez20 => ?_)
            have hz20 : z20.toInt = ((V3 0 2)).toInt + 1 := i_add ez20 rfl (by decide) (by (first | exact om_67c6ad613360 r5.1 f18 | omega))
            refine va_put (D := D) (ci := 12) (v := .int z20) (ty := tyX12 2) (C := RX12) (T := TX12) (N := 100) hx hb hg inX12 tyX12 tyX12_ok nmX12 hown hK hP hD hS 0 rfl rfl 2 (by decide) (hg _ w1708) (fun _ h9 => h9) rfl (tyX12_ok 2 (by decide)) rfl rfl (Nat.le_of_ble_eq_true rfl) dX12_lay_66 (fun H locs hP hD hS => ?_)
            obtain ⟨V21, hV21⟩ : ∃ z, z = up2 V19 0 2 z20 := ⟨_, rfl⟩
            have hP : va_P D vwCl (mw ad kk ks.1 V21 L) H := by rw [hV21]; exact hP
            have hD : va_D A (mw ad kk ks.1 V21 L) := by rw [hV21]; exact hD
            have hMV21 : rgd bM V21 := hMV19.put hV21 (show 0 ≤ z20.toInt ∧ z20.toInt ≤ 4000 from by (first | exact om_44a0a3faffcf r5.1 f18 hz20 | omega))
            have agV21 : agr [(0, 2)] [1] V V21 := agV19.up hV21 rfl
            obtain ⟨z22, ez22⟩ : ∃ y : Int32, y = y2 + (-8) := ⟨_, rfl⟩
            have hz22 : z22.toInt = y2.toInt + (-8) := i_add ez22 rfl (by decide) (by (first | exact om_cd1367a02e57 klp4_0.2 f8 | omega))
            refine lv_iinc (v := z22) (lv' := [(3, .int z22), (4, .int z11), (0, .ref (ad 0)), (1, .long p0)]) hx hb dX12_lay_69 hl (k := 1) rfl (by rw [ez22]; rfl) (by decide) rfl (fun ls hl => ?_)
            refine lv_goto (tgt := 3) hx hb dX12_lay_72 (by decide) ?_
            have pq23 : (V21 0 2).toInt = z20.toInt := congrArg Int32.toInt (up2_s hV21)
            have kz25 := i_clamp (x := (V3 0 2)) rfl (by (first | exact om_eafa9039069c r5.1 | omega))
            have en26 : (Int32.toNatClampNeg (V3 0 2)) = kg := by (first | exact om_c4e1e142d663 xlp4_2 kz25 | omega)
            have ef24 : V21 1 = upd (V3 1) kg z11 := by rw [up2_fo hV21 (by decide), up2_fn hV19, en26]
            exact ihlp4 (j) (kg + 1) z22 V21 H locs ls (by (first | exact om_0850c42f4b69 klp4_0.2 f8 hz22 | omega)) (show z22.toInt = 8 * ((j : Nat) : Int) - 8 from by (first | exact om_4b5c81c165b1 xlp4_0 hz22 | omega)) (show j ≤ 8 from by (first | exact om_6ecf95dc7ca7 klp4_0.2 xlp4_0 | omega)) (show (V21 0 2).toInt = ((kg + 1 : Nat) : Int) from by (first | exact om_064febd7b2a5 xlp4_2 hz20 pq23 | omega)) (show kg + 1 ≤ 4000 from by (first | exact om_39fe2737fdae xlp4_2 f18 | omega)) (by rw [← xlp4_4]; show _ = apm j p0 (stp (sgm p0 (shv (j + 1))) kg); rw [← ey, ← es, stp_i (by omega) (by omega)]) (by rw [ef24, ← xlp4_5]; show _ = apF sgm j p0 (stp (sgm p0 (shv (j + 1))) kg) (wrF (sgm p0 (shv (j + 1))) kg (V3 1)); rw [← ey, ← es, stp_i (by omega) (by omega), wrF_i (by omega) (by omega)]) (by (first | exact om_74a39192ceaa hn hz22 | omega)) (agr.up (agr.up (agr.tr agr.rf ajV3 (by decide) (by decide)) hV19 rfl) hV21 rfl) hMV21 hP hD hS (lv_sub hl [0, 2, 3] rfl)
        · skip
          have f27 : z11.toInt ≠ 10 := b_neq rfl (by decide) c12
          refine lv_iload hx hb dX12_lay_24 (lv_at hl 0 rfl) ?_
          refine lv_bipush (v := 32) hx hb dX12_lay_26 (by decide) ?_
          refine lv_icmp_lt (tgt := 69) hx hb dX12_lay_28 (by decide) (fun c28 => ?_) (fun c28 => ?_)
          · skip
            have f29 : z11.toInt < 32 := b_lt rfl (by decide) c28
            obtain ⟨z30, ez30⟩ : ∃ y : Int32, y = y2 + (-8) := ⟨_, rfl⟩
            have hz30 : z30.toInt = y2.toInt + (-8) := i_add ez30 rfl (by decide) (by (first | exact om_cd1367a02e57 klp4_0.2 f8 | omega))
            refine lv_iinc (v := z30) (lv' := [(3, .int z30), (4, .int z11), (0, .ref (ad 0)), (1, .long p0)]) hx hb dX12_lay_69 hl (k := 1) rfl (by rw [ez30]; rfl) (by decide) rfl (fun ls hl => ?_)
            refine lv_goto (tgt := 3) hx hb dX12_lay_72 (by decide) ?_
            have ef31 : V3 1 = V3 1 := rfl
            exact ihlp4 (j) (kg) z30 V3 H locs ls (by (first | exact om_0850c42f4b69 klp4_0.2 f8 hz30 | omega)) (show z30.toInt = 8 * ((j : Nat) : Int) - 8 from by (first | exact om_4b5c81c165b1 xlp4_0 hz30 | omega)) (show j ≤ 8 from by (first | exact om_6ecf95dc7ca7 klp4_0.2 xlp4_0 | omega)) (show (V3 0 2).toInt = ((kg : Nat) : Int) from by (first | exact om_08e0c9701055 xlp4_2 | omega)) (show kg ≤ 4000 from by (first | exact om_af64e361c991 xlp4_3 | omega)) (by rw [← xlp4_4]; show _ = apm j p0 (stp (sgm p0 (shv (j + 1))) kg); rw [← ey, ← es, stp_j (by omega)]) (by rw [ef31, ← xlp4_5]; show _ = apF sgm j p0 (stp (sgm p0 (shv (j + 1))) kg) (wrF (sgm p0 (shv (j + 1))) kg (V3 1)); rw [← ey, ← es, stp_j (by omega), wrF_j (by omega)]) (by (first | exact om_74a39192ceaa hn hz30 | omega)) (agr.tr agr.rf ajV3 (by decide) (by decide)) hMV3 hP hD hS (lv_sub hl [0, 2, 3] rfl)
          · skip
            have f32 : 32 ≤ z11.toInt := b_nlt rfl (by decide) c28
            refine lv_iload hx hb dX12_lay_31 (lv_at hl 0 rfl) ?_
            refine lv_bipush (v := 126) hx hb dX12_lay_33 (by decide) ?_
            refine lv_icmp_gt (tgt := 69) hx hb dX12_lay_35 (by decide) (fun c33 => ?_) (fun c33 => ?_)
            · skip
              have f34 : 126 < z11.toInt := b_lt (by decide) rfl c33
              obtain ⟨z35, ez35⟩ : ∃ y : Int32, y = y2 + (-8) := ⟨_, rfl⟩
              have hz35 : z35.toInt = y2.toInt + (-8) := i_add ez35 rfl (by decide) (by (first | exact om_cd1367a02e57 klp4_0.2 f8 | omega))
              refine lv_iinc (v := z35) (lv' := [(3, .int z35), (4, .int z11), (0, .ref (ad 0)), (1, .long p0)]) hx hb dX12_lay_69 hl (k := 1) rfl (by rw [ez35]; rfl) (by decide) rfl (fun ls hl => ?_)
              refine lv_goto (tgt := 3) hx hb dX12_lay_72 (by decide) ?_
              have ef36 : V3 1 = V3 1 := rfl
              exact ihlp4 (j) (kg) z35 V3 H locs ls (by (first | exact om_0850c42f4b69 klp4_0.2 f8 hz35 | omega)) (show z35.toInt = 8 * ((j : Nat) : Int) - 8 from by (first | exact om_4b5c81c165b1 xlp4_0 hz35 | omega)) (show j ≤ 8 from by (first | exact om_6ecf95dc7ca7 klp4_0.2 xlp4_0 | omega)) (show (V3 0 2).toInt = ((kg : Nat) : Int) from by (first | exact om_08e0c9701055 xlp4_2 | omega)) (show kg ≤ 4000 from by (first | exact om_af64e361c991 xlp4_3 | omega)) (by rw [← xlp4_4]; show _ = apm j p0 (stp (sgm p0 (shv (j + 1))) kg); rw [← ey, ← es, stp_j (by omega)]) (by rw [ef36, ← xlp4_5]; show _ = apF sgm j p0 (stp (sgm p0 (shv (j + 1))) kg) (wrF (sgm p0 (shv (j + 1))) kg (V3 1)); rw [← ey, ← es, stp_j (by omega), wrF_j (by omega)]) (by (first | exact om_74a39192ceaa hn hz35 | omega)) (agr.tr agr.rf ajV3 (by decide) (by decide)) hMV3 hP hD hS (lv_sub hl [0, 2, 3] rfl)
            · skip
              have f37 : z11.toInt ≤ 126 := b_nlt (by decide) rfl c33
              refine lv_aload_n hx hb dX12_lay_38 rfl (lv_at hl 2 rfl) ?_
              refine va_get (D := D) (ci := 12) (v := .int (V3 0 2)) (C := RX12) (T := TX12) (N := 100) hx hb hg inX12 hown hK hP 0 rfl rfl 2 (by decide) (hg _ w1708) (fun _ h9 => h9) rfl dX12_lay_39 ?_
              refine lv_sipush (v := 4000) hx hb dX12_lay_42 (by decide) ?_
              refine lv_icmp_ge (tgt := 69) hx hb dX12_lay_45 (by decide) (fun c38 => ?_) (fun c38 => ?_)
              · skip
                have f39 : 4000 ≤ ((V3 0 2)).toInt := b_le (by decide) rfl c38
                obtain ⟨z40, ez40⟩ : ∃ y : Int32, y = y2 + (-8) := ⟨_, rfl⟩
                have hz40 : z40.toInt = y2.toInt + (-8) := i_add ez40 rfl (by decide) (by (first | exact om_cd1367a02e57 klp4_0.2 f8 | omega))
                refine lv_iinc (v := z40) (lv' := [(3, .int z40), (4, .int z11), (0, .ref (ad 0)), (1, .long p0)]) hx hb dX12_lay_69 hl (k := 1) rfl (by rw [ez40]; rfl) (by decide) rfl (fun ls hl => ?_)
                refine lv_goto (tgt := 3) hx hb dX12_lay_72 (by decide) ?_
                have ef41 : V3 1 = V3 1 := rfl
                exact ihlp4 (j) (kg) z40 V3 H locs ls (by (first | exact om_0850c42f4b69 klp4_0.2 f8 hz40 | omega)) (show z40.toInt = 8 * ((j : Nat) : Int) - 8 from by (first | exact om_4b5c81c165b1 xlp4_0 hz40 | omega)) (show j ≤ 8 from by (first | exact om_6ecf95dc7ca7 klp4_0.2 xlp4_0 | omega)) (show (V3 0 2).toInt = ((kg : Nat) : Int) from by (first | exact om_e4dc208c913d xlp4_2 xlp4_3 f39 | omega)) (show kg ≤ 4000 from by (first | exact om_af64e361c991 xlp4_3 | omega)) (by rw [← xlp4_4]; show _ = apm j p0 (stp (sgm p0 (shv (j + 1))) kg); rw [← ey, ← es, stp_j (by omega)]) (by rw [ef41, ← xlp4_5]; show _ = apF sgm j p0 (stp (sgm p0 (shv (j + 1))) kg) (wrF (sgm p0 (shv (j + 1))) kg (V3 1)); rw [← ey, ← es, stp_j (by omega), wrF_j (by omega)]) (by (first | exact om_74a39192ceaa hn hz40 | omega)) (agr.tr agr.rf ajV3 (by decide) (by decide)) hMV3 hP hD hS (lv_sub hl [0, 2, 3] rfl)
              · skip
                have f42 : ((V3 0 2)).toInt < 4000 := b_nle (by decide) rfl c38
                refine lv_aload_n hx hb dX12_lay_48 rfl (lv_at hl 2 rfl) ?_
                refine va_get (D := D) (ci := 12) (v := .ref (ad 1)) (C := RX12) (T := TX12) (N := 100) hx hb hg inX12 hown hK hP 0 rfl rfl 1 (by decide) (hg _ w1707) (fun _ h9 => h9) rfl dX12_lay_49 ?_
                refine lv_aload_n hx hb dX12_lay_52 rfl (lv_at hl 2 rfl) ?_
                refine va_get (D := D) (ci := 12) (v := .int (V3 0 2)) (C := RX12) (T := TX12) (N := 100) hx hb hg inX12 hown hK hP 0 rfl rfl 2 (by decide) (hg _ w1708) (fun _ h9 => h9) rfl dX12_lay_53 ?_
                refine lv_iload hx hb dX12_lay_56 (lv_at hl 0 rfl) ?_
                refine va_iast (D := D) (i := (V3 0 2)) (x := z11) hx hb hK hP hD hS 1 0 rfl rfl (i_in (a := ((V3 0 2)).toInt) rfl (by (first | exact om_644c9ac25911 r5.1 f42 | omega))) dX12_lay_58 (fun H locs hP hD hS => ?_)
                obtain ⟨V43, hV43⟩ : ∃ z, z = up2 V3 1 (Int32.toNatClampNeg (V3 0 2)) z11 := ⟨_, rfl⟩
                have hP : va_P D vwCl (mw ad kk ks.1 V43 L) H := by rw [hV43]; exact hP
                have hD : va_D A (mw ad kk ks.1 V43 L) := by rw [hV43]; exact hD
                have hMV43 : rgd bM V43 := hMV3.put hV43 (i_full _)
                have agV43 : agr [(0, 2)] [1] V V43 := agV3.up hV43 rfl
                refine lv_aload_n hx hb dX12_lay_59 rfl (lv_at hl 2 rfl) ?_
                refine lv_dup hx hb dX12_lay_60 rfl ?_
                refine va_get (D := D) (ci := 12) (v := .int (V43 0 2)) (C := RX12) (T := TX12) (N := 100) hx hb hg inX12 hown hK hP 0 rfl rfl 2 (by decide) (hg _ w1708) (fun _ h9 => h9) rfl dX12_lay_61 ?_
                refine g_top (v := (V3 0 2)) (up2_o hV43 (by decide)) ?_
                refine lv_iconst (v := 1) hx hb dX12_lay_64 (by decide) ?_
                refine lv_iadd hx hb dX12_lay_65 ?_
                refine lv_topi (fun z44 ez44 => ?_)
                have hz44 : z44.toInt = ((V3 0 2)).toInt + 1 := i_add ez44 rfl (by decide) (by (first | exact om_67c6ad613360 r5.1 f42 | omega))
                refine va_put (D := D) (ci := 12) (v := .int z44) (ty := tyX12 2) (C := RX12) (T := TX12) (N := 100) hx hb hg inX12 tyX12 tyX12_ok nmX12 hown hK hP hD hS 0 rfl rfl 2 (by decide) (hg _ w1708) (fun _ h9 => h9) rfl (tyX12_ok 2 (by decide)) rfl rfl (Nat.le_of_ble_eq_true rfl) dX12_lay_66 (fun H locs hP hD hS => ?_)
                obtain ⟨V45, hV45⟩ : ∃ z, z = up2 V43 0 2 z44 := ⟨_, rfl⟩
                have hP : va_P D vwCl (mw ad kk ks.1 V45 L) H := by rw [hV45]; exact hP
                have hD : va_D A (mw ad kk ks.1 V45 L) := by rw [hV45]; exact hD
                have hMV45 : rgd bM V45 := hMV43.put hV45 (show 0 ≤ z44.toInt ∧ z44.toInt ≤ 4000 from by (first | exact om_44a0a3faffcf r5.1 f42 hz44 | omega))
                have agV45 : agr [(0, 2)] [1] V V45 := agV43.up hV45 rfl
                obtain ⟨z46, ez46⟩ : ∃ y : Int32, y = y2 + (-8) := ⟨_, rfl⟩
                have hz46 : z46.toInt = y2.toInt + (-8) := i_add ez46 rfl (by decide) (by (first | exact om_cd1367a02e57 klp4_0.2 f8 | omega))
                refine lv_iinc (v := z46) (lv' := [(3, .int z46), (4, .int z11), (0, .ref (ad 0)), (1, .long p0)]) hx hb dX12_lay_69 hl (k := 1) rfl (by rw [ez46]; rfl) (by decide) rfl (fun ls hl => ?_)
                refine lv_goto (tgt := 3) hx hb dX12_lay_72 (by decide) ?_
                have pq47 : (V45 0 2).toInt = z44.toInt := congrArg Int32.toInt (up2_s hV45)
                have kz49 := i_clamp (x := (V3 0 2)) rfl (by (first | exact om_eafa9039069c r5.1 | omega))
                have en50 : (Int32.toNatClampNeg (V3 0 2)) = kg := by (first | exact om_c4e1e142d663 xlp4_2 kz49 | omega)
                have ef48 : V45 1 = upd (V3 1) kg z11 := by rw [up2_fo hV45 (by decide), up2_fn hV43, en50]
                exact ihlp4 (j) (kg + 1) z46 V45 H locs ls (by (first | exact om_0850c42f4b69 klp4_0.2 f8 hz46 | omega)) (show z46.toInt = 8 * ((j : Nat) : Int) - 8 from by (first | exact om_4b5c81c165b1 xlp4_0 hz46 | omega)) (show j ≤ 8 from by (first | exact om_6ecf95dc7ca7 klp4_0.2 xlp4_0 | omega)) (show (V45 0 2).toInt = ((kg + 1 : Nat) : Int) from by (first | exact om_064febd7b2a5 xlp4_2 hz44 pq47 | omega)) (show kg + 1 ≤ 4000 from by (first | exact om_39fe2737fdae xlp4_2 f42 | omega)) (by rw [← xlp4_4]; show _ = apm j p0 (stp (sgm p0 (shv (j + 1))) kg); rw [← ey, ← es, stp_i (by omega) (by omega)]) (by rw [ef48, ← xlp4_5]; show _ = apF sgm j p0 (stp (sgm p0 (shv (j + 1))) kg) (wrF (sgm p0 (shv (j + 1))) kg (V3 1)); rw [← ey, ← es, stp_i (by omega) (by omega), wrF_i (by omega) (by omega)]) (by (first | exact om_74a39192ceaa hn hz46 | omega)) (agr.up (agr.up (agr.tr agr.rf ajV3 (by decide) (by decide)) hV43 rfl) hV45 rfl) hMV45 hP hD hS (lv_sub hl [0, 2, 3] rfl)
  have r51 : Int32.toInt 56 = 56 := by decide
  exact lp4 (((Int32.toInt 56) + 8 + 1 : Int).toNat) (8) (k0) 56 V H locs ls (by decide) (show (Int32.toInt 56) = 8 * ((8 : Nat) : Int) - 8 from by (first | exact om_5096ece6e03a r51 | omega)) (show 8 ≤ 8 from by omega) (show (V 0 2).toInt = ((k0 : Nat) : Int) from by (first | exact om_08e0c9701055 y1 | omega)) (show k0 ≤ 4000 from by (first | exact om_4bc1f7c5a8a4 y1 r1.2 | omega)) rfl rfl (by (first | exact om_ab6338ba1c2d | omega)) agr.rf hMV hP hD hS (lv_sub hl [0, 1, 2] rfl)
abbrev r_s_feed3 : Room := { frames := 1, cells := 0, slots := 0, locals := 24 }
abbrev q_s_feed3 (D : va_G) (ks : KS) (ad : Nat → Nat) (kk : Nat → ClassId) (V : Vf) (L : Lf) (p0 : Int64) (p1 : Int64) (p2 : Int64) (k0 : Nat) (A : Nat → Prop) : Array Value → State → Outcome → State → Prop := va_Qi (fun (r : Int32) (u : Vf × Lf) => rgd bM u.1 ∧ agr [(0, 0), (0, 2)] [1] V u.1 ∧ u.2 = L ∧ (r.toInt = ((apm 8 p2 (apm 8 p1 (apm 8 p0 k0)) : Nat) : Int)) ∧ ((u.1 0 2).toInt = ((apm 8 p2 (apm 8 p1 (apm 8 p0 k0)) : Nat) : Int)) ∧ ((u.1 1) = apF sgm 8 p2 (apm 8 p1 (apm 8 p0 k0)) (apF sgm 8 p1 (apm 8 p0 k0) (apF sgm 8 p0 k0 (V 1))))) (fun u t => gq D A (mw ad kk ks.1 u.1 u.2) (mty kk) t) A
set_option maxHeartbeats 4000000 in
set_option maxRecDepth 100000 in
theorem s_feed3 (l : Launch) (D : va_G) (ks : KS) (sz : Nat) (ad : Nat → Nat) (kk : Nat → ClassId) (V : Vf) (L : Lf) (p0 : Int64) (p1 : Int64) (p2 : Int64) (k0 : Nat) (hMV : rgd bM V) (y1 : (V 0 2).toInt = (k0 : Int))  : Met l yX12_feed (Cond.code yX12_feed cX12_feed 7 (some .int) :: GW) r_s_feed3 (va_Pc [.ref (ad 0), .long p0, .long p1, .long p2] (gp D ks (mw ad kk ks.1 V L) (mty kk) sz)) (q_s_feed3 D ks ad kk V L p0 p1 p2 k0 (va_A (mw ad kk ks.1 V L) sz)) 0 0 (va_A (mw ad kk ks.1 V L) sz) := by
  refine g_met (q_s_feed3 D ks ad kk V L p0 p1 p2 k0) (by decide) (Nat.le_of_ble_eq_true rfl) ?_
  intro p e s m below meth c A ls H locs hx hb hr hml hown hg hlocks hin hnw hgk hP hK hD hS hA hl
  have hown : s.vm.findClass RX12 = some m.cls := hown
  have hl : lv_has ls 7 [(0, .ref (ad 0)), (1, .long p0), (3, .long p1), (5, .long p2)] := hl
  have hP : va_P D vwCl (mw ad kk ks.1 V L) H := hP
  have hD : va_D A (mw ad kk ks.1 V L) := hD
  have hK : va_K D vwCl (mty kk) s := hK
  have agV : agr [(0, 0), (0, 2)] [1] V V := agr.rf
  have r1 : 0 ≤ ((V 0 2)).toInt ∧ ((V 0 2)).toInt ≤ 4000 := hMV 0 2
  refine lv_aload_n hx hb dX12_feed_0 rfl (lv_at hl 0 rfl) ?_
  refine lv_iconst (v := 0) hx hb dX12_feed_1 (by decide) ?_
  refine va_put (D := D) (ci := 12) (v := .int 0) (ty := tyX12 0) (C := RX12) (T := TX12) (N := 100) hx hb hg inX12 tyX12 tyX12_ok nmX12 hown hK hP hD hS 0 rfl rfl 0 (by decide) (hg _ w1706) (fun _ h9 => h9) rfl (tyX12_ok 0 (by decide)) rfl rfl (Nat.le_of_ble_eq_true rfl) dX12_feed_2 (fun H locs hP hD hS => ?_)
  obtain ⟨V2, hV2⟩ : ∃ z, z = up2 V 0 0 0 := ⟨_, rfl⟩
  have hP : va_P D vwCl (mw ad kk ks.1 V2 L) H := by rw [hV2]; exact hP
  have hD : va_D A (mw ad kk ks.1 V2 L) := by rw [hV2]; exact hD
  have hMV2 : rgd bM V2 := hMV.put hV2 (i_full _)
  have agV2 : agr [(0, 0), (0, 2)] [1] V V2 := agV.up hV2 rfl
  refine lv_aload_n hx hb dX12_feed_5 rfl (lv_at hl 0 rfl) ?_
  refine lv_lload_n hx hb dX12_feed_6 rfl (lv_at hl 1 rfl) ?_
  have pq3 : (V2 0 2).toInt = ((V 0 2)).toInt := congrArg Int32.toInt (up2_k hV2 (by decide))
  refine gA_void (gA_runV (As := [.long p0]) (rest := []) (ci := 12) (q0 := 0) hx hb hml hown hg hP hD hK hS hA hnw hgk (s_lay2 l D ks H.size ad kk V2 L p0 (k0) hMV2 (show (V2 0 2).toInt = ((k0) : Int) from by (first | exact om_adf531c77a0d y1 pq3 | omega))) w1685 w1687 w81 w172 w1689 rfl rfl hdV_yX12_lay ⟨Nat.le_of_ble_eq_true rfl, Nat.le_of_ble_eq_true rfl⟩ rfl hl.1 rfl (Nat.le_of_ble_eq_true rfl) dX12_feed_7 ⟨Nat.le_of_ble_eq_true rfl, Nat.le_of_ble_eq_true rfl⟩) hP hD hK hS hA (fun u5 H locs w6 hP hD hK hS => ?_)
  obtain ⟨V9, L10⟩ := u5
  obtain ⟨hMV9, ajV9, axL10, t7, t8⟩ := w6
  have axL10 : L = L10 := Eq.symm axL10
  subst axL10
  have hP : va_P D vwCl (mw ad kk ks.1 V9 L) H := hP
  have hD : va_D A (mw ad kk ks.1 V9 L) := hD
  have hMV9 : rgd bM V9 := hMV9
  have ajV9 : agr [(0, 2)] [1] V2 V9 := ajV9
  have agV9 : agr [(0, 0), (0, 2)] [1] V V9 := agV2.tr ajV9 (by decide) (by decide)
  have t7 : (V9 0 2).toInt = ((apm 8 (p0) (k0) : Nat) : Int) := t7
  have t8 : (V9 1) = apF sgm 8 (p0) (k0) (V2 1) := t8
  have r11 : 0 ≤ ((V9 0 2)).toInt ∧ ((V9 0 2)).toInt ≤ 4000 := hMV9 0 2
  refine lv_aload_n hx hb dX12_feed_10 rfl (lv_at hl 0 rfl) ?_
  refine lv_lload_n hx hb dX12_feed_11 rfl (lv_at hl 2 rfl) ?_
  refine gA_void (gA_runV (As := [.long p1]) (rest := []) (ci := 12) (q0 := 0) hx hb hml hown hg hP hD hK hS hA hnw hgk (s_lay2 l D ks H.size ad kk V9 L p1 (apm 8 p0 k0) hMV9 (show (V9 0 2).toInt = ((apm 8 p0 k0) : Int) from by (first | exact om_08e0c9701055 t7 | omega))) w1685 w1687 w81 w172 w1689 rfl rfl hdV_yX12_lay ⟨Nat.le_of_ble_eq_true rfl, Nat.le_of_ble_eq_true rfl⟩ rfl hl.1 rfl (Nat.le_of_ble_eq_true rfl) dX12_feed_12 ⟨Nat.le_of_ble_eq_true rfl, Nat.le_of_ble_eq_true rfl⟩) hP hD hK hS hA (fun u13 H locs w14 hP hD hK hS => ?_)
  obtain ⟨V17, L18⟩ := u13
  obtain ⟨hMV17, ajV17, axL18, t15, t16⟩ := w14
  have axL18 : L = L18 := Eq.symm axL18
  subst axL18
  have hP : va_P D vwCl (mw ad kk ks.1 V17 L) H := hP
  have hD : va_D A (mw ad kk ks.1 V17 L) := hD
  have hMV17 : rgd bM V17 := hMV17
  have ajV17 : agr [(0, 2)] [1] V9 V17 := ajV17
  have agV17 : agr [(0, 0), (0, 2)] [1] V V17 := agV9.tr ajV17 (by decide) (by decide)
  have t15 : (V17 0 2).toInt = ((apm 8 (p1) (apm 8 p0 k0) : Nat) : Int) := t15
  have t16 : (V17 1) = apF sgm 8 (p1) (apm 8 p0 k0) (V9 1) := t16
  have r19 : 0 ≤ ((V17 0 2)).toInt ∧ ((V17 0 2)).toInt ≤ 4000 := hMV17 0 2
  refine lv_aload_n hx hb dX12_feed_15 rfl (lv_at hl 0 rfl) ?_
  refine lv_lload hx hb dX12_feed_16 (lv_at hl 3 rfl) ?_
  refine gA_void (gA_runV (As := [.long p2]) (rest := []) (ci := 12) (q0 := 0) hx hb hml hown hg hP hD hK hS hA hnw hgk (s_lay2 l D ks H.size ad kk V17 L p2 (apm 8 p1 (apm 8 p0 k0)) hMV17 (show (V17 0 2).toInt = ((apm 8 p1 (apm 8 p0 k0)) : Int) from by (first | exact om_08e0c9701055 t15 | omega))) w1685 w1687 w81 w172 w1689 rfl rfl hdV_yX12_lay ⟨Nat.le_of_ble_eq_true rfl, Nat.le_of_ble_eq_true rfl⟩ rfl hl.1 rfl (Nat.le_of_ble_eq_true rfl) dX12_feed_18 ⟨Nat.le_of_ble_eq_true rfl, Nat.le_of_ble_eq_true rfl⟩) hP hD hK hS hA (fun u21 H locs w22 hP hD hK hS => ?_)
  obtain ⟨V25, L26⟩ := u21
  obtain ⟨hMV25, ajV25, axL26, t23, t24⟩ := w22
  have axL26 : L = L26 := Eq.symm axL26
  subst axL26
  have hP : va_P D vwCl (mw ad kk ks.1 V25 L) H := hP
  have hD : va_D A (mw ad kk ks.1 V25 L) := hD
  have hMV25 : rgd bM V25 := hMV25
  have ajV25 : agr [(0, 2)] [1] V17 V25 := ajV25
  have agV25 : agr [(0, 0), (0, 2)] [1] V V25 := agV17.tr ajV25 (by decide) (by decide)
  have t23 : (V25 0 2).toInt = ((apm 8 (p2) (apm 8 p1 (apm 8 p0 k0)) : Nat) : Int) := t23
  have t24 : (V25 1) = apF sgm 8 (p2) (apm 8 p1 (apm 8 p0 k0)) (V17 1) := t24
  have r27 : 0 ≤ ((V25 0 2)).toInt ∧ ((V25 0 2)).toInt ≤ 4000 := hMV25 0 2
  refine lv_aload_n hx hb dX12_feed_21 rfl (lv_at hl 0 rfl) ?_
  refine va_get (D := D) (ci := 12) (v := .int (V25 0 2)) (C := RX12) (T := TX12) (N := 100) hx hb hg inX12 hown hK hP 0 rfl rfl 2 (by decide) (hg _ w1708) (fun _ h9 => h9) rfl dX12_feed_22 ?_
  have rp28 : V25 1 = apF sgm 8 p2 (apm 8 p1 (apm 8 p0 k0)) (apF sgm 8 p1 (apm 8 p0 k0) (apF sgm 8 p0 k0 (V 1))) := by rw [t24, t16, t8, up2_fo hV2 (by decide)]
  exact W.iret (v := (V25 0 2)) hx hb hr (fun t ht hW => ⟨⟨(V25 0 2), (V25, L), rfl, ⟨hMV25, agV25, rfl, (show ((V25 0 2)).toInt = ((apm 8 p2 (apm 8 p1 (apm 8 p0 k0)) : Nat) : Int) from by (first | exact om_08e0c9701055 t23 | omega)), (show (V25 0 2).toInt = ((apm 8 p2 (apm 8 p1 (apm 8 p0 k0)) : Nat) : Int) from by (first | exact om_08e0c9701055 t23 | omega)), rp28⟩, by rw [ht]; exact hP, va_K.moved hW.alike hK, hD⟩, hS.F ht⟩) hS.2.2 dX12_feed_25
end
section
/-! tokens: their places, by what lies there -/
def isLt (x : Int32) : Prop := 97 ≤ x.toInt ∧ x.toInt ≤ 122
def isDg (x : Int32) : Prop := 48 ≤ x.toInt ∧ x.toInt ≤ 57
def isLD (x : Int32) : Prop := isLt x ∨ isDg x
def isBl (x : Int32) : Prop := x.toInt = 32 ∨ x.toInt = 10
def RUN (P : Int32 → Prop) (f : Nat → Int32) (n s e : Nat) : Prop := s < e ∧ e ≤ n ∧ (∀ k, s ≤ k → k < e → P (f k)) ∧ (e = n ∨ ¬ P (f e))
theorem RUN.uq {P : Int32 → Prop} {f : Nat → Int32} {n s e d : Nat} (h : RUN P f n s e) (k : RUN P f n s d) : e = d := by
  rcases Nat.lt_trichotomy e d with c | c | c
  · rcases h.2.2.2 with q | q
    · have := k.2.1
      omega
    · exact absurd (k.2.2.1 e (Nat.le_of_lt h.1) c) q
  · exact c
  · rcases k.2.2.2 with q | q
    · have := h.2.1
      omega
    · exact absurd (h.2.2.1 d (Nat.le_of_lt k.1) c) q
theorem RUN.ex {P : Int32 → Prop} {f g : Nat → Int32} {n s e : Nat} (h : RUN P f n s e) (q : eqB n f g) : RUN P g n s e :=
  ⟨h.1, h.2.1, fun k a b => by rw [← q k (by have := h.2.1; omega)]; exact h.2.2.1 k a b, by
    by_cases c : e = n
    · exact Or.inl c
    · have := h.2.1
      rw [← q e (by omega)]
      exact h.2.2.2⟩
def cd (x : Int32) : Int64 := (if 48 ≤ x.toInt ∧ x.toInt ≤ 57 then x - 48 + 27 else x - 97 + 1).toInt64
def wv (f : Nat → Int32) (s : Nat) : Nat → Int64
  | 0 => 0
  | l + 1 => wv f s l * 37 + cd (f (s + l))
def nv (f : Nat → Int32) (s : Nat) : Nat → Int64
  | 0 => 0
  | l + 1 => nv f s l * 10 + (f (s + l)).toInt64 - 48
theorem wv_s (f : Nat → Int32) (s l : Nat) : wv f s (l + 1) = wv f s l * 37 + cd (f (s + l)) := rfl
theorem nv_s (f : Nat → Int32) (s l : Nat) : nv f s (l + 1) = nv f s l * 10 + (f (s + l)).toInt64 - 48 := rfl
def KW (L : Lf) (w : Int64) (x : Int) : Prop := (x = 3 ∧ ∀ k : Nat, k < 28 → L 11 k ≠ w) ∨ ∃ k : Nat, k < 28 ∧ x = 128 + (k : Int) ∧ L 11 k = w


abbrev r_x_isDigit2 : Room := { frames := 0, cells := 0, slots := 0, locals := 0 }
abbrev q_x_isDigit2 (D : va_G) (p0 : Int32) (A : Nat → Prop) : Array Value → State → Outcome → State → Prop := va_Qi (fun (r : Int32) (_ : Unit) => (0 ≤ r.toInt ∧ r.toInt ≤ 1) ∧ (Imp (r.toInt = 1) (48 ≤ p0.toInt ∧ p0.toInt ≤ 57)) ∧ (Imp (r.toInt = 0) (p0.toInt < 48 ∨ 57 < p0.toInt))) (fun _ t => gq D A [] [] t) A
set_option maxHeartbeats 4000000 in
set_option maxRecDepth 100000 in
theorem x_isDigit2 (l : Launch) (D : va_G) (ks : KS) (sz : Nat) (p0 : Int32)  : Met l yX9_isDigit (Cond.code yX9_isDigit cX9_isDigit 1 (some .boolean) :: GW) r_x_isDigit2 (va_Pc [.int p0] (gp D ks ([]) ([]) sz)) (q_x_isDigit2 D p0 (va_A ([]) sz)) 0 0 (va_A ([]) sz) := by
  refine g_met (q_x_isDigit2 D p0) (by decide) (Nat.le_of_ble_eq_true rfl) ?_
  intro p e s m below meth c A ls H locs hx hb hr hml hown hg hlocks hin hnw hgk hP hK hD hS hA hl
  have hown : s.vm.findClass RX9 = some m.cls := hown
  have hl : lv_has ls 1 [(0, .int p0)] := hl
  refine lv_iload_n hx hb dX9_isDigit_0 rfl (lv_at hl 0 rfl) ?_
  refine lv_bipush (v := 48) hx hb dX9_isDigit_1 (by decide) ?_
  refine lv_icmp_lt (tgt := 16) hx hb dX9_isDigit_3 (by decide) (fun c1 => ?_) (fun c1 => ?_)
  · skip
    have f2 : p0.toInt < 48 := b_lt rfl (by decide) c1
    refine lv_iconst (v := 0) hx hb dX9_isDigit_16 (by decide) ?_
    exact W.zret (v := 0) hx hb hr rfl (fun t ht hW => ⟨⟨0, (), rfl, ⟨(by decide), (Imp.mk (fun hp => absurd hp (by decide))), (Imp.mk (fun _ => (show p0.toInt < 48 ∨ 57 < p0.toInt from by (first | exact om_a459ff030017 f2 | omega))))⟩, by rw [ht]; exact hP, va_K.moved hW.alike hK, hD⟩, hS.F ht⟩) hS.2.2 dX9_isDigit_17
  · skip
    have f3 : 48 ≤ p0.toInt := b_nlt rfl (by decide) c1
    refine lv_iload_n hx hb dX9_isDigit_6 rfl (lv_at hl 0 rfl) ?_
    refine lv_bipush (v := 57) hx hb dX9_isDigit_7 (by decide) ?_
    refine lv_icmp_gt (tgt := 16) hx hb dX9_isDigit_9 (by decide) (fun c4 => ?_) (fun c4 => ?_)
    · skip
      have f5 : 57 < p0.toInt := b_lt (by decide) rfl c4
      refine lv_iconst (v := 0) hx hb dX9_isDigit_16 (by decide) ?_
      exact W.zret (v := 0) hx hb hr rfl (fun t ht hW => ⟨⟨0, (), rfl, ⟨(by decide), (Imp.mk (fun hp => absurd hp (by decide))), (Imp.mk (fun _ => (show p0.toInt < 48 ∨ 57 < p0.toInt from by (first | exact om_8525824fe862 f5 | omega))))⟩, by rw [ht]; exact hP, va_K.moved hW.alike hK, hD⟩, hS.F ht⟩) hS.2.2 dX9_isDigit_17
    · skip
      have f6 : p0.toInt ≤ 57 := b_nlt (by decide) rfl c4
      refine lv_iconst (v := 1) hx hb dX9_isDigit_12 (by decide) ?_
      refine lv_goto (tgt := 17) hx hb dX9_isDigit_13 (by decide) ?_
      exact W.zret (v := 1) hx hb hr rfl (fun t ht hW => ⟨⟨1, (), rfl, ⟨(by decide), (Imp.mk (fun _ => (show 48 ≤ p0.toInt ∧ p0.toInt ≤ 57 from by (first | exact om_f3f8e6332068 f3 f6 | omega)))), (Imp.mk (fun hp => absurd hp (by decide)))⟩, by rw [ht]; exact hP, va_K.moved hW.alike hK, hD⟩, hS.F ht⟩) hS.2.2 dX9_isDigit_17
abbrev r_x_isLetter2 : Room := { frames := 0, cells := 0, slots := 0, locals := 0 }
abbrev q_x_isLetter2 (D : va_G) (p0 : Int32) (A : Nat → Prop) : Array Value → State → Outcome → State → Prop := va_Qi (fun (r : Int32) (_ : Unit) => (0 ≤ r.toInt ∧ r.toInt ≤ 1) ∧ (Imp (r.toInt = 1) (97 ≤ p0.toInt ∧ p0.toInt ≤ 122)) ∧ (Imp (r.toInt = 0) (p0.toInt < 97 ∨ 122 < p0.toInt))) (fun _ t => gq D A [] [] t) A
set_option maxHeartbeats 4000000 in
set_option maxRecDepth 100000 in
theorem x_isLetter2 (l : Launch) (D : va_G) (ks : KS) (sz : Nat) (p0 : Int32)  : Met l yX9_isLetter (Cond.code yX9_isLetter cX9_isLetter 1 (some .boolean) :: GW) r_x_isLetter2 (va_Pc [.int p0] (gp D ks ([]) ([]) sz)) (q_x_isLetter2 D p0 (va_A ([]) sz)) 0 0 (va_A ([]) sz) := by
  refine g_met (q_x_isLetter2 D p0) (by decide) (Nat.le_of_ble_eq_true rfl) ?_
  intro p e s m below meth c A ls H locs hx hb hr hml hown hg hlocks hin hnw hgk hP hK hD hS hA hl
  have hown : s.vm.findClass RX9 = some m.cls := hown
  have hl : lv_has ls 1 [(0, .int p0)] := hl
  refine lv_iload_n hx hb dX9_isLetter_0 rfl (lv_at hl 0 rfl) ?_
  refine lv_bipush (v := 97) hx hb dX9_isLetter_1 (by decide) ?_
  refine lv_icmp_lt (tgt := 16) hx hb dX9_isLetter_3 (by decide) (fun c1 => ?_) (fun c1 => ?_)
  · skip
    have f2 : p0.toInt < 97 := b_lt rfl (by decide) c1
    refine lv_iconst (v := 0) hx hb dX9_isLetter_16 (by decide) ?_
    exact W.zret (v := 0) hx hb hr rfl (fun t ht hW => ⟨⟨0, (), rfl, ⟨(by decide), (Imp.mk (fun hp => absurd hp (by decide))), (Imp.mk (fun _ => (show p0.toInt < 97 ∨ 122 < p0.toInt from by (first | exact om_219af0e9d391 f2 | omega))))⟩, by rw [ht]; exact hP, va_K.moved hW.alike hK, hD⟩, hS.F ht⟩) hS.2.2 dX9_isLetter_17
  · skip
    have f3 : 97 ≤ p0.toInt := b_nlt rfl (by decide) c1
    refine lv_iload_n hx hb dX9_isLetter_6 rfl (lv_at hl 0 rfl) ?_
    refine lv_bipush (v := 122) hx hb dX9_isLetter_7 (by decide) ?_
    refine lv_icmp_gt (tgt := 16) hx hb dX9_isLetter_9 (by decide) (fun c4 => ?_) (fun c4 => ?_)
    · skip
      have f5 : 122 < p0.toInt := b_lt (by decide) rfl c4
      refine lv_iconst (v := 0) hx hb dX9_isLetter_16 (by decide) ?_
      exact W.zret (v := 0) hx hb hr rfl (fun t ht hW => ⟨⟨0, (), rfl, ⟨(by decide), (Imp.mk (fun hp => absurd hp (by decide))), (Imp.mk (fun _ => (show p0.toInt < 97 ∨ 122 < p0.toInt from by (first | exact om_d282e5b0f45d f5 | omega))))⟩, by rw [ht]; exact hP, va_K.moved hW.alike hK, hD⟩, hS.F ht⟩) hS.2.2 dX9_isLetter_17
    · skip
      have f6 : p0.toInt ≤ 122 := b_nlt (by decide) rfl c4
      refine lv_iconst (v := 1) hx hb dX9_isLetter_12 (by decide) ?_
      refine lv_goto (tgt := 17) hx hb dX9_isLetter_13 (by decide) ?_
      exact W.zret (v := 1) hx hb hr rfl (fun t ht hW => ⟨⟨1, (), rfl, ⟨(by decide), (Imp.mk (fun _ => (show 97 ≤ p0.toInt ∧ p0.toInt ≤ 122 from by (first | exact om_201b8e8d33df f3 f6 | omega)))), (Imp.mk (fun hp => absurd hp (by decide)))⟩, by rw [ht]; exact hP, va_K.moved hW.alike hK, hD⟩, hS.F ht⟩) hS.2.2 dX9_isLetter_17
abbrev r_x_cutNumber2 : Room := { frames := 1, cells := 0, slots := 0, locals := 20 }
abbrev q_x_cutNumber2 (D : va_G) (ks : KS) (ad : Nat → Nat) (kk : Nat → ClassId) (V : Vf) (L : Lf) (Z : XZ) (gs : Nat) (A : Nat → Prop) : Array Value → State → Outcome → State → Prop := va_Qv (fun (u : Vf × Lf) => rgd bX u.1 ∧ agr [(6, 6)] [12, 14] V u.1 ∧ agL [14] L u.2 ∧ (∃ e : Nat, RUN isDg (V 10) (V 6 5).toInt.toNat gs e ∧ (u.1 6 6).toInt = (e : Int) ∧ (9 < e - gs → (u.1 12 (Int32.toNatClampNeg (V 6 7))).toInt = 1) ∧ (e - gs ≤ 9 → (u.1 12 (Int32.toNatClampNeg (V 6 7))).toInt = 2 ∧ u.2 14 (Int32.toNatClampNeg (V 6 7)) = nv (V 10) gs (e - gs))) ∧ (∀ k : Nat, k ≠ (Int32.toNatClampNeg (V 6 7)) → u.1 12 k = V 12 k ∧ u.2 14 k = L 14 k)) (fun u t => gq D A (xw ad kk u.1 u.2 Z) (xty kk Z) t) A
set_option maxHeartbeats 4000000 in
set_option maxRecDepth 100000 in
theorem x_cutNumber2 (l : Launch) (D : va_G) (ks : KS) (sz : Nat) (ad : Nat → Nat) (kk : Nat → ClassId) (V : Vf) (L : Lf) (Z : XZ) (gs : Nat) (hMV : rgd bX V) (rp1 : (V 6 6).toInt < (V 6 5).toInt) (rp2 : (V 6 7).toInt ≤ 3999) (rp3 : (V 6 6).toInt = (gs : Int)) (rp4 : isDg (V 10 gs))  : Met l yX9_cutNumber (Cond.code yX9_cutNumber cX9_cutNumber 4 none :: GW) r_x_cutNumber2 (va_Pc [.ref (ad 6)] (gp D ks (xw ad kk V L Z) (xty kk Z) sz)) (q_x_cutNumber2 D ks ad kk V L Z  gs (va_A (xw ad kk V L Z) sz)) 0 0 (va_A (xw ad kk V L Z) sz) := by
  refine g_met (q_x_cutNumber2 D ks ad kk V L Z  gs) (by decide) (Nat.le_of_ble_eq_true rfl) ?_
  intro p e s m below meth c A ls H locs hx hb hr hml hown hg hlocks hin hnw hgk hP hK hD hS hA hl
  have hown : s.vm.findClass RX9 = some m.cls := hown
  have hl : lv_has ls 4 [(0, .ref (ad 6))] := hl
  have hP : va_P D vwCl (xw ad kk V L Z) H := hP
  have hD : va_D A (xw ad kk V L Z) := hD
  have hK : va_K D vwCl (xty kk Z) s := hK
  have agV : agr [(6, 6)] [12, 14] V V := agr.rf
  have alL : agL [14] L L := agL.rf
  have r1 : 0 ≤ ((V 6 5)).toInt ∧ ((V 6 5)).toInt ≤ 4000 := hMV 6 5
  have r2 : 0 ≤ ((V 6 6)).toInt ∧ ((V 6 6)).toInt ≤ 4000 := hMV 6 6
  have r3 : 0 ≤ ((V 6 7)).toInt ∧ ((V 6 7)).toInt ≤ 4000 := hMV 6 7
  refine lv_iconst (v := 0) hx hb dX9_cutNumber_0 (by decide) ?_
  refine lv_istore_n (lv' := [(1, .int 0), (0, .ref (ad 6))]) hx hb dX9_cutNumber_1 rfl hl (by decide) rfl (fun ls hl => ?_)
  refine lv_lconst (v := 0) hx hb dX9_cutNumber_2 (by decide) ?_
  refine lv_lstore_n (lv' := [(2, .long 0), (1, .int 0), (0, .ref (ad 6))]) hx hb dX9_cutNumber_3 rfl hl (by decide) rfl (fun ls hl => ?_)
  have lp7 : ∀ (fulp7 : Nat) (y4 : Int64) (y5 : Int32) (V6 : Vf) (H : Heap) (locs : List Loc) (ls : Array Slot), 0 ≤ y5.toInt ∧ y5.toInt ≤ 4000 → (V6 6 6).toInt ≤ (V6 6 5).toInt → (V 6 6).toInt + y5.toInt = (V6 6 6).toInt → (∀ k : Nat, (k : Int) < y5.toInt → isDg (V 10 (gs + k))) → (y5.toInt ≤ 9 → y4 = nv (V 10) gs (y5.toInt).toNat) → (V6 6 5).toInt - (V6 6 6).toInt < (fulp7 : Int) → agr [(6, 6)] [] V V6 → rgd bX V6 → va_P D vwCl (xw ad kk V6 L Z) H → va_D A (xw ad kk V6 L Z) → va_S A s.heap H locs → lv_has ls 4 [(2, .long y4), (1, .int y5), (0, .ref (ad 6))] → W p l e r_x_cutNumber2 s m ([.ref (ad 6)] : List Value).toArray below meth c H locs 0 0 (MQ below (q_x_cutNumber2 D ks ad kk V L Z  gs A) ([.ref (ad 6)] : List Value).toArray s 0 0 A) (F0 m 4 ls []) := by
    intro fulp7
    induction fulp7 with
    | zero =>
      intro y4 y5 V6 H locs ls klp7_0 xlp7_0 xlp7_1 xlp7_2 xlp7_3 hn ajV6 hMV6 hP hD hS hl
      exfalso; (first | exact om_4634b1278845 xlp7_0 hn | omega)
    | succ fulp7 ihlp7 =>
      intro y4 y5 V6 H locs ls klp7_0 xlp7_0 xlp7_1 xlp7_2 xlp7_3 hn ajV6 hMV6 hP hD hS hl
      have agV6 : agr [(6, 6)] [12, 14] V V6 := agV.tr ajV6 (by decide) (by decide)
      have pq8 : (V6 6 5).toInt = ((V 6 5)).toInt := congrArg Int32.toInt (ajV6 6 5 rfl)
      have r9 : 0 ≤ ((V6 6 6)).toInt ∧ ((V6 6 6)).toInt ≤ 4000 := hMV6 6 6
      refine lv_aload_n hx hb dX9_cutNumber_4 rfl (lv_at hl 2 rfl) ?_
      refine va_get (D := D) (ci := 9) (v := .int (V6 6 6)) (fs := (xfTape ad V6 L Z)) (C := RX9) (T := TX9) (N := 12) hx hb hg inX9 hown hK hP 6 xgTape rfl 6 (by decide) (hg _ w259) (fun _ h9 => h9) rfl dX9_cutNumber_5 ?_
      refine lv_aload_n hx hb dX9_cutNumber_8 rfl (lv_at hl 2 rfl) ?_
      refine va_get (D := D) (ci := 9) (v := .int (V6 6 5)) (fs := (xfTape ad V6 L Z)) (C := RX9) (T := TX9) (N := 12) hx hb hg inX9 hown hK hP 6 xgTape rfl 5 (by decide) (hg _ w258) (fun _ h9 => h9) rfl dX9_cutNumber_9 ?_
      refine g_top (v := (V 6 5)) (ajV6 6 5 rfl) ?_
      refine lv_icmp_ge (tgt := 77) hx hb dX9_cutNumber_12 (by decide) (fun c10 => ?_) (fun c10 => ?_)
      · skip
        have f11 : ((V 6 5)).toInt ≤ ((V6 6 6)).toInt := b_le rfl rfl c10
        refine lv_aload_n hx hb dX9_cutNumber_77 rfl (lv_at hl 2 rfl) ?_
        refine va_get (D := D) (ci := 9) (v := .ref (ad 9)) (fs := (xfTape ad V6 L Z)) (C := RX9) (T := TX9) (N := 12) hx hb hg inX9 hown hK hP 6 xgTape rfl 2 (by decide) (hg _ w254) (fun _ h9 => h9) rfl dX9_cutNumber_78 ?_
        refine lv_aload_n hx hb dX9_cutNumber_81 rfl (lv_at hl 2 rfl) ?_
        refine va_get (D := D) (ci := 9) (v := .int (V6 6 7)) (fs := (xfTape ad V6 L Z)) (C := RX9) (T := TX9) (N := 12) hx hb hg inX9 hown hK hP 6 xgTape rfl 7 (by decide) (hg _ w260) (fun _ h9 => h9) rfl dX9_cutNumber_82 ?_
        refine g_top (v := (V 6 7)) (ajV6 6 7 rfl) ?_
        refine lv_iload_n hx hb dX9_cutNumber_85 rfl (lv_at hl 1 rfl) ?_
        refine lv_bipush (v := 9) hx hb dX9_cutNumber_86 (by decide) ?_
        refine lv_icmp_le (tgt := 95) hx hb dX9_cutNumber_88 (by decide) (fun c12 => ?_) (fun c12 => ?_)
        · skip
          have f13 : y5.toInt ≤ 9 := b_le rfl (by decide) c12
          refine lv_iconst (v := 2) hx hb dX9_cutNumber_95 (by decide) ?_
          refine va_iast (D := D) (i := (V 6 7)) (x := 2) hx hb hK hP hD hS 9 2 rfl rfl (i_in (a := ((V 6 7)).toInt) rfl (by first | exact om_1452076f4170 rp2 r3.1 | first | omega | ((try (have i_rp4 := Imp.go rp4 (by omega))); omega))) dX9_cutNumber_96 (fun H locs hP hD hS => ?_)
          obtain ⟨V14, hV14⟩ : ∃ z, z = up2 V6 12 (Int32.toNatClampNeg (V 6 7)) 2 := ⟨_, rfl⟩
          have ew15 : (xw ad kk V6 L Z).set 9 ((ad 9), .inl ((kk 9), 4001, .inl (upd (V6 12) (Int32.toNatClampNeg (V 6 7)) 2))) = xw ad kk V14 L Z := by rw [hV14]; exact xw_ss (by decide) rfl (xb_si (by decide))
          have hP : va_P D vwCl (xw ad kk V14 L Z) H := by rw [← ew15]; exact hP
          have hD : va_D A (xw ad kk V14 L Z) := by rw [← ew15]; exact hD
          have hMV14 : rgd bX V14 := hMV6.put hV14 (i_full _)
          have agV14 : agr [(6, 6)] [12, 14] V V14 := agV6.up hV14 rfl
          refine lv_aload_n hx hb dX9_cutNumber_97 rfl (lv_at hl 2 rfl) ?_
          refine va_get (D := D) (ci := 9) (v := .ref (ad 11)) (fs := (xfTape ad V14 L Z)) (C := RX9) (T := TX9) (N := 12) hx hb hg inX9 hown hK hP 6 xgTape rfl 4 (by decide) (hg _ w256) (fun _ h9 => h9) rfl dX9_cutNumber_98 ?_
          refine lv_aload_n hx hb dX9_cutNumber_101 rfl (lv_at hl 2 rfl) ?_
          refine va_get (D := D) (ci := 9) (v := .int (V14 6 7)) (fs := (xfTape ad V14 L Z)) (C := RX9) (T := TX9) (N := 12) hx hb hg inX9 hown hK hP 6 xgTape rfl 7 (by decide) (hg _ w260) (fun _ h9 => h9) rfl dX9_cutNumber_102 ?_
          refine g_top (v := (V 6 7)) ((up2_o hV14 (by decide)).trans (ajV6 6 7 rfl)) ?_
          refine lv_lload_n hx hb dX9_cutNumber_105 rfl (lv_at hl 0 rfl) ?_
          refine va_last (D := D) (i := (V 6 7)) (x := y4) hx hb hK hP hD hS 11 4 rfl rfl (i_in (a := ((V 6 7)).toInt) rfl (by first | exact om_1452076f4170 rp2 r3.1 | first | omega | ((try (have i_rp4 := Imp.go rp4 (by omega))); omega))) dX9_cutNumber_106 (fun H locs hP hD hS => ?_)
          obtain ⟨L16, hL16⟩ : ∃ z, z = upL L 14 (Int32.toNatClampNeg (V 6 7)) y4 := ⟨_, rfl⟩
          have ew17 : (xw ad kk V14 L Z).set 11 ((ad 11), .inl ((kk 11), 4001, .inr (.inl (vp_updL (L 14) (Int32.toNatClampNeg (V 6 7)) y4)))) = xw ad kk V14 L16 Z := by rw [hL16]; exact xw_ss (by decide) rfl (fun j => xe_L (fun a => absurd a.1 (by decide)))
          have hP : va_P D vwCl (xw ad kk V14 L16 Z) H := by rw [← ew17]; exact hP
          have hD : va_D A (xw ad kk V14 L16 Z) := by rw [← ew17]; exact hD
          have alL16 : agL [14] L L16 := agL.up alL hL16 rfl
          have hl0 : 0 < y5.toInt.toNat := by first | exact om_93fe111d81db rp1 xlp7_1 f11 | first | omega | ((try (have i_rp4 := Imp.go rp4 (by omega))); omega)
          have hrun : RUN isDg (V 10) (V 6 5).toInt.toNat gs (gs + y5.toInt.toNat) := ⟨by omega, by first | omega | ((try (have i_rp4 := Imp.go rp4 (by omega))); omega), fun k a b => by have z := xlp7_2 (k - gs) (by omega); rw [show gs + (k - gs) = k from by omega] at z; exact z, Or.inl (by first | omega | ((try (have i_rp4 := Imp.go rp4 (by omega))); omega))⟩
          have hsub : gs + y5.toInt.toNat - gs = y5.toInt.toNat := Nat.add_sub_cancel_left _ _
          have pq18 : (V14 6 6).toInt = ((V6 6 6)).toInt := congrArg Int32.toInt (up2_o hV14 (by decide))
          have ek19 : V14 12 (Int32.toNatClampNeg (V 6 7)) = 2 := (up2_s hV14)
          have hL14 : L16 14 (Int32.toNatClampNeg (V 6 7)) = y4 := by rw [hL16]; unfold upL vp_updL; rw [if_pos rfl, if_pos rfl]
          have rp20 : ∃ e : Nat, RUN isDg (V 10) (V 6 5).toInt.toNat gs e ∧ (V14 6 6).toInt = (e : Int) ∧ (9 < e - gs → (V14 12 (Int32.toNatClampNeg (V 6 7))).toInt = 1) ∧ (e - gs ≤ 9 → (V14 12 (Int32.toNatClampNeg (V 6 7))).toInt = 2 ∧ L16 14 (Int32.toNatClampNeg (V 6 7)) = nv (V 10) gs (e - gs)) := ⟨_, hrun, by first | omega | ((try (have i_rp4 := Imp.go rp4 (by omega))); omega), fun h => by rw [hsub] at h; rw [ek19]; exfalso; omega, fun h => by rw [hsub] at h ⊢; exact ⟨(by rw [ek19]; decide), by rw [hL14]; exact xlp7_3 (by first | omega | ((try (have i_rp4 := Imp.go rp4 (by omega))); omega))⟩⟩
          have hF12 : V14 12 = upd (V 12) (Int32.toNatClampNeg (V 6 7)) 2 := by rw [up2_fn hV14, show V6 12 = V 12 from funext (fun q => ajV6 12 q rfl)]
          have rp21 : ∀ k : Nat, k ≠ (Int32.toNatClampNeg (V 6 7)) → V14 12 k = V 12 k ∧ L16 14 k = L 14 k := fun k hk => ⟨by rw [hF12]; exact if_neg hk, by rw [hL16]; unfold upL vp_updL; rw [if_pos rfl, if_neg hk]⟩
          exact W.vret hx hb hr (fun t ht hW => ⟨⟨(V14, L16), rfl, ⟨hMV14, agV14, alL16, rp20, rp21⟩, by rw [ht]; exact hP, va_K.moved hW.alike hK, hD⟩, hS.F ht⟩) hS.2.2 dX9_cutNumber_107
        · skip
          have f22 : 9 < y5.toInt := b_nle rfl (by decide) c12
          refine lv_iconst (v := 1) hx hb dX9_cutNumber_91 (by decide) ?_
          refine lv_goto (tgt := 96) hx hb dX9_cutNumber_92 (by decide) ?_
          refine va_iast (D := D) (i := (V 6 7)) (x := 1) hx hb hK hP hD hS 9 2 rfl rfl (i_in (a := ((V 6 7)).toInt) rfl (by first | exact om_1452076f4170 rp2 r3.1 | first | omega | ((try (have i_rp4 := Imp.go rp4 (by omega))); omega))) dX9_cutNumber_96 (fun H locs hP hD hS => ?_)
          obtain ⟨V23, hV23⟩ : ∃ z, z = up2 V6 12 (Int32.toNatClampNeg (V 6 7)) 1 := ⟨_, rfl⟩
          have ew24 : (xw ad kk V6 L Z).set 9 ((ad 9), .inl ((kk 9), 4001, .inl (upd (V6 12) (Int32.toNatClampNeg (V 6 7)) 1))) = xw ad kk V23 L Z := by rw [hV23]; exact xw_ss (by decide) rfl (xb_si (by decide))
          have hP : va_P D vwCl (xw ad kk V23 L Z) H := by rw [← ew24]; exact hP
          have hD : va_D A (xw ad kk V23 L Z) := by rw [← ew24]; exact hD
          have hMV23 : rgd bX V23 := hMV6.put hV23 (i_full _)
          have agV23 : agr [(6, 6)] [12, 14] V V23 := agV6.up hV23 rfl
          refine lv_aload_n hx hb dX9_cutNumber_97 rfl (lv_at hl 2 rfl) ?_
          refine va_get (D := D) (ci := 9) (v := .ref (ad 11)) (fs := (xfTape ad V23 L Z)) (C := RX9) (T := TX9) (N := 12) hx hb hg inX9 hown hK hP 6 xgTape rfl 4 (by decide) (hg _ w256) (fun _ h9 => h9) rfl dX9_cutNumber_98 ?_
          refine lv_aload_n hx hb dX9_cutNumber_101 rfl (lv_at hl 2 rfl) ?_
          refine va_get (D := D) (ci := 9) (v := .int (V23 6 7)) (fs := (xfTape ad V23 L Z)) (C := RX9) (T := TX9) (N := 12) hx hb hg inX9 hown hK hP 6 xgTape rfl 7 (by decide) (hg _ w260) (fun _ h9 => h9) rfl dX9_cutNumber_102 ?_
          refine g_top (v := (V 6 7)) ((up2_o hV23 (by decide)).trans (ajV6 6 7 rfl)) ?_
          refine lv_lload_n hx hb dX9_cutNumber_105 rfl (lv_at hl 0 rfl) ?_
          refine va_last (D := D) (i := (V 6 7)) (x := y4) hx hb hK hP hD hS 11 4 rfl rfl (i_in (a := ((V 6 7)).toInt) rfl (by first | exact om_1452076f4170 rp2 r3.1 | first | omega | ((try (have i_rp4 := Imp.go rp4 (by omega))); omega))) dX9_cutNumber_106 (fun H locs hP hD hS => ?_)
          obtain ⟨L25, hL25⟩ : ∃ z, z = upL L 14 (Int32.toNatClampNeg (V 6 7)) y4 := ⟨_, rfl⟩
          have ew26 : (xw ad kk V23 L Z).set 11 ((ad 11), .inl ((kk 11), 4001, .inr (.inl (vp_updL (L 14) (Int32.toNatClampNeg (V 6 7)) y4)))) = xw ad kk V23 L25 Z := by rw [hL25]; exact xw_ss (by decide) rfl (fun j => xe_L (fun a => absurd a.1 (by decide)))
          have hP : va_P D vwCl (xw ad kk V23 L25 Z) H := by rw [← ew26]; exact hP
          have hD : va_D A (xw ad kk V23 L25 Z) := by rw [← ew26]; exact hD
          have alL25 : agL [14] L L25 := agL.up alL hL25 rfl
          have hl0 : 0 < y5.toInt.toNat := by first | exact om_e49ec47d0425 f22 | first | omega | ((try (have i_rp4 := Imp.go rp4 (by omega))); omega)
          have hrun : RUN isDg (V 10) (V 6 5).toInt.toNat gs (gs + y5.toInt.toNat) := ⟨by omega, by first | omega | ((try (have i_rp4 := Imp.go rp4 (by omega))); omega), fun k a b => by have z := xlp7_2 (k - gs) (by omega); rw [show gs + (k - gs) = k from by omega] at z; exact z, Or.inl (by first | omega | ((try (have i_rp4 := Imp.go rp4 (by omega))); omega))⟩
          have hsub : gs + y5.toInt.toNat - gs = y5.toInt.toNat := Nat.add_sub_cancel_left _ _
          have pq27 : (V23 6 6).toInt = ((V6 6 6)).toInt := congrArg Int32.toInt (up2_o hV23 (by decide))
          have ek28 : V23 12 (Int32.toNatClampNeg (V 6 7)) = 1 := (up2_s hV23)
          have hL14 : L25 14 (Int32.toNatClampNeg (V 6 7)) = y4 := by rw [hL25]; unfold upL vp_updL; rw [if_pos rfl, if_pos rfl]
          have rp29 : ∃ e : Nat, RUN isDg (V 10) (V 6 5).toInt.toNat gs e ∧ (V23 6 6).toInt = (e : Int) ∧ (9 < e - gs → (V23 12 (Int32.toNatClampNeg (V 6 7))).toInt = 1) ∧ (e - gs ≤ 9 → (V23 12 (Int32.toNatClampNeg (V 6 7))).toInt = 2 ∧ L25 14 (Int32.toNatClampNeg (V 6 7)) = nv (V 10) gs (e - gs)) := ⟨_, hrun, by first | omega | ((try (have i_rp4 := Imp.go rp4 (by omega))); omega), fun h => by rw [hsub] at h; rw [ek28]; decide, fun h => by rw [hsub] at h ⊢; exact ⟨(by rw [ek28]; exfalso; omega), by rw [hL14]; exact xlp7_3 (by first | omega | ((try (have i_rp4 := Imp.go rp4 (by omega))); omega))⟩⟩
          have hF12 : V23 12 = upd (V 12) (Int32.toNatClampNeg (V 6 7)) 1 := by rw [up2_fn hV23, show V6 12 = V 12 from funext (fun q => ajV6 12 q rfl)]
          have rp30 : ∀ k : Nat, k ≠ (Int32.toNatClampNeg (V 6 7)) → V23 12 k = V 12 k ∧ L25 14 k = L 14 k := fun k hk => ⟨by rw [hF12]; exact if_neg hk, by rw [hL25]; unfold upL vp_updL; rw [if_pos rfl, if_neg hk]⟩
          exact W.vret hx hb hr (fun t ht hW => ⟨⟨(V23, L25), rfl, ⟨hMV23, agV23, alL25, rp29, rp30⟩, by rw [ht]; exact hP, va_K.moved hW.alike hK, hD⟩, hS.F ht⟩) hS.2.2 dX9_cutNumber_107
      · skip
        have f31 : ((V6 6 6)).toInt < ((V 6 5)).toInt := b_nle rfl rfl c10
        refine lv_aload_n hx hb dX9_cutNumber_15 rfl (lv_at hl 2 rfl) ?_
        refine va_get (D := D) (ci := 9) (v := .ref (ad 7)) (fs := (xfTape ad V6 L Z)) (C := RX9) (T := TX9) (N := 12) hx hb hg inX9 hown hK hP 6 xgTape rfl 0 (by decide) (hg _ w252) (fun _ h9 => h9) rfl dX9_cutNumber_16 ?_
        refine lv_aload_n hx hb dX9_cutNumber_19 rfl (lv_at hl 2 rfl) ?_
        refine va_get (D := D) (ci := 9) (v := .int (V6 6 6)) (fs := (xfTape ad V6 L Z)) (C := RX9) (T := TX9) (N := 12) hx hb hg inX9 hown hK hP 6 xgTape rfl 6 (by decide) (hg _ w259) (fun _ h9 => h9) rfl dX9_cutNumber_20 ?_
        refine va_bald (D := D) (i := (V6 6 6)) hx hb hK hP 7 0 rfl rfl (i_in (a := ((V6 6 6)).toInt) rfl (by first | exact om_ae1ad81edeff r1.2 r9.1 f31 | first | omega | ((try (have i_rp4 := Imp.go rp4 (by omega))); omega))) dX9_cutNumber_23 ?_
        refine g_top (v := (V 10 (Int32.toNatClampNeg (V6 6 6)))) (ajV6 10 (Int32.toNatClampNeg (V6 6 6)) rfl) ?_
        refine gE_int (g_runS (As := [.int (V 10 (Int32.toNatClampNeg (V6 6 6)))]) (rest := []) (wc := []) (tc := []) hx hb hml hown hg gw_self hP hD hK hS hA hnw hgk [] [] (by decide) rfl rfl (x_isDigit2 l D ks H.size (V 10 (Int32.toNatClampNeg (V6 6 6))) ) w249 w250 w157 w251 hdS_yX9_isDigit ⟨Nat.le_of_ble_eq_true rfl, Nat.le_of_ble_eq_true rfl⟩ rfl hl.1 rfl (Nat.le_of_ble_eq_true rfl) dX9_cutNumber_24 ⟨Nat.le_of_ble_eq_true rfl, Nat.le_of_ble_eq_true rfl⟩) hP hD hK hS hA (fun z32 u33 H locs w34 hP hD hK hS => ?_)
        obtain ⟨rgz32, t35, t36⟩ := w34
        have rgz32 : 0 ≤ z32.toInt ∧ z32.toInt ≤ 1 := rgz32
        have t35 : Imp (z32.toInt = 1) (48 ≤ ((V 10 (Int32.toNatClampNeg (V6 6 6)))).toInt ∧ ((V 10 (Int32.toNatClampNeg (V6 6 6)))).toInt ≤ 57) := t35
        have t36 : Imp (z32.toInt = 0) (((V 10 (Int32.toNatClampNeg (V6 6 6)))).toInt < 48 ∨ 57 < ((V 10 (Int32.toNatClampNeg (V6 6 6)))).toInt) := t36
        refine lv_if_eq (tgt := 77) hx hb dX9_cutNumber_27 (by decide) (fun c37 => ?_) (fun c37 => ?_)
        · skip
          have f38 : z32.toInt = 0 := b_eq rfl (by decide) c37
          refine lv_aload_n hx hb dX9_cutNumber_77 rfl (lv_at hl 2 rfl) ?_
          refine va_get (D := D) (ci := 9) (v := .ref (ad 9)) (fs := (xfTape ad V6 L Z)) (C := RX9) (T := TX9) (N := 12) hx hb hg inX9 hown hK hP 6 xgTape rfl 2 (by decide) (hg _ w254) (fun _ h9 => h9) rfl dX9_cutNumber_78 ?_
          refine lv_aload_n hx hb dX9_cutNumber_81 rfl (lv_at hl 2 rfl) ?_
          refine va_get (D := D) (ci := 9) (v := .int (V6 6 7)) (fs := (xfTape ad V6 L Z)) (C := RX9) (T := TX9) (N := 12) hx hb hg inX9 hown hK hP 6 xgTape rfl 7 (by decide) (hg _ w260) (fun _ h9 => h9) rfl dX9_cutNumber_82 ?_
          refine g_top (v := (V 6 7)) (ajV6 6 7 rfl) ?_
          refine lv_iload_n hx hb dX9_cutNumber_85 rfl (lv_at hl 1 rfl) ?_
          refine lv_bipush (v := 9) hx hb dX9_cutNumber_86 (by decide) ?_
          refine lv_icmp_le (tgt := 95) hx hb dX9_cutNumber_88 (by decide) (fun c39 => ?_) (fun c39 => ?_)
          · skip
            have f40 : y5.toInt ≤ 9 := b_le rfl (by decide) c39
            refine lv_iconst (v := 2) hx hb dX9_cutNumber_95 (by decide) ?_
            refine va_iast (D := D) (i := (V 6 7)) (x := 2) hx hb hK hP hD hS 9 2 rfl rfl (i_in (a := ((V 6 7)).toInt) rfl (by first | exact om_1452076f4170 rp2 r3.1 | first | omega | ((try (have i_t36 := Imp.go t36 (by omega))); (try (have i_t35 := Imp.go t35 (by omega))); (try (have i_rp4 := Imp.go rp4 (by omega))); (try (have i_rp4 := Imp.go rp4 (by omega))); (try (have i_t35 := Imp.go t35 (by omega))); (try (have i_t36 := Imp.go t36 (by omega))); omega))) dX9_cutNumber_96 (fun H locs hP hD hS => ?_)
            obtain ⟨V41, hV41⟩ : ∃ z, z = up2 V6 12 (Int32.toNatClampNeg (V 6 7)) 2 := ⟨_, rfl⟩
            have ew42 : (xw ad kk V6 L Z).set 9 ((ad 9), .inl ((kk 9), 4001, .inl (upd (V6 12) (Int32.toNatClampNeg (V 6 7)) 2))) = xw ad kk V41 L Z := by rw [hV41]; exact xw_ss (by decide) rfl (xb_si (by decide))
            have hP : va_P D vwCl (xw ad kk V41 L Z) H := by rw [← ew42]; exact hP
            have hD : va_D A (xw ad kk V41 L Z) := by rw [← ew42]; exact hD
            have hMV41 : rgd bX V41 := hMV6.put hV41 (i_full _)
            have agV41 : agr [(6, 6)] [12, 14] V V41 := agV6.up hV41 rfl
            refine lv_aload_n hx hb dX9_cutNumber_97 rfl (lv_at hl 2 rfl) ?_
            refine va_get (D := D) (ci := 9) (v := .ref (ad 11)) (fs := (xfTape ad V41 L Z)) (C := RX9) (T := TX9) (N := 12) hx hb hg inX9 hown hK hP 6 xgTape rfl 4 (by decide) (hg _ w256) (fun _ h9 => h9) rfl dX9_cutNumber_98 ?_
            refine lv_aload_n hx hb dX9_cutNumber_101 rfl (lv_at hl 2 rfl) ?_
            refine va_get (D := D) (ci := 9) (v := .int (V41 6 7)) (fs := (xfTape ad V41 L Z)) (C := RX9) (T := TX9) (N := 12) hx hb hg inX9 hown hK hP 6 xgTape rfl 7 (by decide) (hg _ w260) (fun _ h9 => h9) rfl dX9_cutNumber_102 ?_
            refine g_top (v := (V 6 7)) ((up2_o hV41 (by decide)).trans (ajV6 6 7 rfl)) ?_
            refine lv_lload_n hx hb dX9_cutNumber_105 rfl (lv_at hl 0 rfl) ?_
            refine va_last (D := D) (i := (V 6 7)) (x := y4) hx hb hK hP hD hS 11 4 rfl rfl (i_in (a := ((V 6 7)).toInt) rfl (by first | exact om_1452076f4170 rp2 r3.1 | first | omega | ((try (have i_t36 := Imp.go t36 (by omega))); (try (have i_t35 := Imp.go t35 (by omega))); (try (have i_rp4 := Imp.go rp4 (by omega))); (try (have i_rp4 := Imp.go rp4 (by omega))); (try (have i_t35 := Imp.go t35 (by omega))); (try (have i_t36 := Imp.go t36 (by omega))); omega))) dX9_cutNumber_106 (fun H locs hP hD hS => ?_)
            obtain ⟨L43, hL43⟩ : ∃ z, z = upL L 14 (Int32.toNatClampNeg (V 6 7)) y4 := ⟨_, rfl⟩
            have ew44 : (xw ad kk V41 L Z).set 11 ((ad 11), .inl ((kk 11), 4001, .inr (.inl (vp_updL (L 14) (Int32.toNatClampNeg (V 6 7)) y4)))) = xw ad kk V41 L43 Z := by rw [hL43]; exact xw_ss (by decide) rfl (fun j => xe_L (fun a => absurd a.1 (by decide)))
            have hP : va_P D vwCl (xw ad kk V41 L43 Z) H := by rw [← ew44]; exact hP
            have hD : va_D A (xw ad kk V41 L43 Z) := by rw [← ew44]; exact hD
            have alL43 : agL [14] L L43 := agL.up alL hL43 rfl
            have kz45 := i_clamp (x := (V6 6 6)) rfl (by first | exact om_fb56619e55db r2.1 klp7_0.1 xlp7_1 | first | omega | ((try (have i_t36 := Imp.go t36 (by omega))); (try (have i_t35 := Imp.go t35 (by omega))); (try (have i_rp4 := Imp.go rp4 (by omega))); (try (have i_rp4 := Imp.go rp4 (by omega))); (try (have i_t35 := Imp.go t35 (by omega))); (try (have i_t36 := Imp.go t36 (by omega))); omega))
            have ek47 : Int32.toNatClampNeg (V6 6 6) = gs + y5.toInt.toNat := by first | exact om_a24691f97300 rp3 klp7_0.1 xlp7_1 kz45 | first | omega | ((try (have i_t36 := Imp.go t36 (by omega))); (try (have i_t35 := Imp.go t35 (by omega))); (try (have i_rp4 := Imp.go rp4 (by omega))); (try (have i_rp4 := Imp.go rp4 (by omega))); (try (have i_t35 := Imp.go t35 (by omega))); (try (have i_t36 := Imp.go t36 (by omega))); omega)
            have er46 : (V 10 (Int32.toNatClampNeg (V6 6 6))) = V 10 (gs + y5.toInt.toNat) := by rw [ek47]
            have nd48 : ¬ isDg (V 10 (gs + y5.toInt.toNat)) := by rw [← er46]; exact (fun q => by have z := Imp.go t36 (by (first | exact om_b1799fcf2d63 rgz32.1 f38 | omega)); have q1 := q.1; have q2 := q.2; omega)
            have hl0 : 0 < y5.toInt.toNat := Nat.pos_of_ne_zero (fun h0 => nd48 (by rw [h0]; exact rp4))
            have hrun : RUN isDg (V 10) (V 6 5).toInt.toNat gs (gs + y5.toInt.toNat) := ⟨by omega, by first | omega | ((try (have i_t36 := Imp.go t36 (by omega))); (try (have i_t35 := Imp.go t35 (by omega))); (try (have i_rp4 := Imp.go rp4 (by omega))); (try (have i_rp4 := Imp.go rp4 (by omega))); (try (have i_t35 := Imp.go t35 (by omega))); (try (have i_t36 := Imp.go t36 (by omega))); omega), fun k a b => by have z := xlp7_2 (k - gs) (by omega); rw [show gs + (k - gs) = k from by omega] at z; exact z, Or.inr nd48⟩
            have hsub : gs + y5.toInt.toNat - gs = y5.toInt.toNat := Nat.add_sub_cancel_left _ _
            have pq49 : (V41 6 6).toInt = ((V6 6 6)).toInt := congrArg Int32.toInt (up2_o hV41 (by decide))
            have ek50 : V41 12 (Int32.toNatClampNeg (V 6 7)) = 2 := (up2_s hV41)
            have hL14 : L43 14 (Int32.toNatClampNeg (V 6 7)) = y4 := by rw [hL43]; unfold upL vp_updL; rw [if_pos rfl, if_pos rfl]
            have rp51 : ∃ e : Nat, RUN isDg (V 10) (V 6 5).toInt.toNat gs e ∧ (V41 6 6).toInt = (e : Int) ∧ (9 < e - gs → (V41 12 (Int32.toNatClampNeg (V 6 7))).toInt = 1) ∧ (e - gs ≤ 9 → (V41 12 (Int32.toNatClampNeg (V 6 7))).toInt = 2 ∧ L43 14 (Int32.toNatClampNeg (V 6 7)) = nv (V 10) gs (e - gs)) := ⟨_, hrun, by first | omega | ((try (have i_t36 := Imp.go t36 (by omega))); (try (have i_t35 := Imp.go t35 (by omega))); (try (have i_rp4 := Imp.go rp4 (by omega))); (try (have i_rp4 := Imp.go rp4 (by omega))); (try (have i_t35 := Imp.go t35 (by omega))); (try (have i_t36 := Imp.go t36 (by omega))); omega), fun h => by rw [hsub] at h; rw [ek50]; exfalso; omega, fun h => by rw [hsub] at h ⊢; exact ⟨(by rw [ek50]; decide), by rw [hL14]; exact xlp7_3 (by first | omega | ((try (have i_t36 := Imp.go t36 (by omega))); (try (have i_t35 := Imp.go t35 (by omega))); (try (have i_rp4 := Imp.go rp4 (by omega))); (try (have i_rp4 := Imp.go rp4 (by omega))); (try (have i_t35 := Imp.go t35 (by omega))); (try (have i_t36 := Imp.go t36 (by omega))); omega))⟩⟩
            have hF12 : V41 12 = upd (V 12) (Int32.toNatClampNeg (V 6 7)) 2 := by rw [up2_fn hV41, show V6 12 = V 12 from funext (fun q => ajV6 12 q rfl)]
            have rp52 : ∀ k : Nat, k ≠ (Int32.toNatClampNeg (V 6 7)) → V41 12 k = V 12 k ∧ L43 14 k = L 14 k := fun k hk => ⟨by rw [hF12]; exact if_neg hk, by rw [hL43]; unfold upL vp_updL; rw [if_pos rfl, if_neg hk]⟩
            exact W.vret hx hb hr (fun t ht hW => ⟨⟨(V41, L43), rfl, ⟨hMV41, agV41, alL43, rp51, rp52⟩, by rw [ht]; exact hP, va_K.moved hW.alike hK, hD⟩, hS.F ht⟩) hS.2.2 dX9_cutNumber_107
          · skip
            have f53 : 9 < y5.toInt := b_nle rfl (by decide) c39
            refine lv_iconst (v := 1) hx hb dX9_cutNumber_91 (by decide) ?_
            refine lv_goto (tgt := 96) hx hb dX9_cutNumber_92 (by decide) ?_
            refine va_iast (D := D) (i := (V 6 7)) (x := 1) hx hb hK hP hD hS 9 2 rfl rfl (i_in (a := ((V 6 7)).toInt) rfl (by first | exact om_1452076f4170 rp2 r3.1 | first | omega | ((try (have i_t36 := Imp.go t36 (by omega))); (try (have i_t35 := Imp.go t35 (by omega))); (try (have i_rp4 := Imp.go rp4 (by omega))); (try (have i_rp4 := Imp.go rp4 (by omega))); (try (have i_t35 := Imp.go t35 (by omega))); (try (have i_t36 := Imp.go t36 (by omega))); omega))) dX9_cutNumber_96 (fun H locs hP hD hS => ?_)
            obtain ⟨V54, hV54⟩ : ∃ z, z = up2 V6 12 (Int32.toNatClampNeg (V 6 7)) 1 := ⟨_, rfl⟩
            have ew55 : (xw ad kk V6 L Z).set 9 ((ad 9), .inl ((kk 9), 4001, .inl (upd (V6 12) (Int32.toNatClampNeg (V 6 7)) 1))) = xw ad kk V54 L Z := by rw [hV54]; exact xw_ss (by decide) rfl (xb_si (by decide))
            have hP : va_P D vwCl (xw ad kk V54 L Z) H := by rw [← ew55]; exact hP
            have hD : va_D A (xw ad kk V54 L Z) := by rw [← ew55]; exact hD
            have hMV54 : rgd bX V54 := hMV6.put hV54 (i_full _)
            have agV54 : agr [(6, 6)] [12, 14] V V54 := agV6.up hV54 rfl
            refine lv_aload_n hx hb dX9_cutNumber_97 rfl (lv_at hl 2 rfl) ?_
            refine va_get (D := D) (ci := 9) (v := .ref (ad 11)) (fs := (xfTape ad V54 L Z)) (C := RX9) (T := TX9) (N := 12) hx hb hg inX9 hown hK hP 6 xgTape rfl 4 (by decide) (hg _ w256) (fun _ h9 => h9) rfl dX9_cutNumber_98 ?_
            refine lv_aload_n hx hb dX9_cutNumber_101 rfl (lv_at hl 2 rfl) ?_
            refine va_get (D := D) (ci := 9) (v := .int (V54 6 7)) (fs := (xfTape ad V54 L Z)) (C := RX9) (T := TX9) (N := 12) hx hb hg inX9 hown hK hP 6 xgTape rfl 7 (by decide) (hg _ w260) (fun _ h9 => h9) rfl dX9_cutNumber_102 ?_
            refine g_top (v := (V 6 7)) ((up2_o hV54 (by decide)).trans (ajV6 6 7 rfl)) ?_
            refine lv_lload_n hx hb dX9_cutNumber_105 rfl (lv_at hl 0 rfl) ?_
            refine va_last (D := D) (i := (V 6 7)) (x := y4) hx hb hK hP hD hS 11 4 rfl rfl (i_in (a := ((V 6 7)).toInt) rfl (by first | exact om_1452076f4170 rp2 r3.1 | first | omega | ((try (have i_t36 := Imp.go t36 (by omega))); (try (have i_t35 := Imp.go t35 (by omega))); (try (have i_rp4 := Imp.go rp4 (by omega))); (try (have i_rp4 := Imp.go rp4 (by omega))); (try (have i_t35 := Imp.go t35 (by omega))); (try (have i_t36 := Imp.go t36 (by omega))); omega))) dX9_cutNumber_106 (fun H locs hP hD hS => ?_)
            obtain ⟨L56, hL56⟩ : ∃ z, z = upL L 14 (Int32.toNatClampNeg (V 6 7)) y4 := ⟨_, rfl⟩
            have ew57 : (xw ad kk V54 L Z).set 11 ((ad 11), .inl ((kk 11), 4001, .inr (.inl (vp_updL (L 14) (Int32.toNatClampNeg (V 6 7)) y4)))) = xw ad kk V54 L56 Z := by rw [hL56]; exact xw_ss (by decide) rfl (fun j => xe_L (fun a => absurd a.1 (by decide)))
            have hP : va_P D vwCl (xw ad kk V54 L56 Z) H := by rw [← ew57]; exact hP
            have hD : va_D A (xw ad kk V54 L56 Z) := by rw [← ew57]; exact hD
            have alL56 : agL [14] L L56 := agL.up alL hL56 rfl
            have kz58 := i_clamp (x := (V6 6 6)) rfl (by first | exact om_992382949368 r2.1 xlp7_1 f53 | first | omega | ((try (have i_t36 := Imp.go t36 (by omega))); (try (have i_t35 := Imp.go t35 (by omega))); (try (have i_rp4 := Imp.go rp4 (by omega))); (try (have i_rp4 := Imp.go rp4 (by omega))); (try (have i_t35 := Imp.go t35 (by omega))); (try (have i_t36 := Imp.go t36 (by omega))); omega))
            have ek60 : Int32.toNatClampNeg (V6 6 6) = gs + y5.toInt.toNat := by first | exact om_30b111b83d86 rp3 xlp7_1 f53 kz58 | first | omega | ((try (have i_t36 := Imp.go t36 (by omega))); (try (have i_t35 := Imp.go t35 (by omega))); (try (have i_rp4 := Imp.go rp4 (by omega))); (try (have i_rp4 := Imp.go rp4 (by omega))); (try (have i_t35 := Imp.go t35 (by omega))); (try (have i_t36 := Imp.go t36 (by omega))); omega)
            have er59 : (V 10 (Int32.toNatClampNeg (V6 6 6))) = V 10 (gs + y5.toInt.toNat) := by rw [ek60]
            have nd61 : ¬ isDg (V 10 (gs + y5.toInt.toNat)) := by rw [← er59]; exact (fun q => by have z := Imp.go t36 (by (first | exact om_b1799fcf2d63 rgz32.1 f38 | omega)); have q1 := q.1; have q2 := q.2; omega)
            have hl0 : 0 < y5.toInt.toNat := Nat.pos_of_ne_zero (fun h0 => nd61 (by rw [h0]; exact rp4))
            have hrun : RUN isDg (V 10) (V 6 5).toInt.toNat gs (gs + y5.toInt.toNat) := ⟨by omega, by first | omega | ((try (have i_t36 := Imp.go t36 (by omega))); (try (have i_t35 := Imp.go t35 (by omega))); (try (have i_rp4 := Imp.go rp4 (by omega))); (try (have i_rp4 := Imp.go rp4 (by omega))); (try (have i_t35 := Imp.go t35 (by omega))); (try (have i_t36 := Imp.go t36 (by omega))); omega), fun k a b => by have z := xlp7_2 (k - gs) (by omega); rw [show gs + (k - gs) = k from by omega] at z; exact z, Or.inr nd61⟩
            have hsub : gs + y5.toInt.toNat - gs = y5.toInt.toNat := Nat.add_sub_cancel_left _ _
            have pq62 : (V54 6 6).toInt = ((V6 6 6)).toInt := congrArg Int32.toInt (up2_o hV54 (by decide))
            have ek63 : V54 12 (Int32.toNatClampNeg (V 6 7)) = 1 := (up2_s hV54)
            have hL14 : L56 14 (Int32.toNatClampNeg (V 6 7)) = y4 := by rw [hL56]; unfold upL vp_updL; rw [if_pos rfl, if_pos rfl]
            have rp64 : ∃ e : Nat, RUN isDg (V 10) (V 6 5).toInt.toNat gs e ∧ (V54 6 6).toInt = (e : Int) ∧ (9 < e - gs → (V54 12 (Int32.toNatClampNeg (V 6 7))).toInt = 1) ∧ (e - gs ≤ 9 → (V54 12 (Int32.toNatClampNeg (V 6 7))).toInt = 2 ∧ L56 14 (Int32.toNatClampNeg (V 6 7)) = nv (V 10) gs (e - gs)) := ⟨_, hrun, by first | omega | ((try (have i_t36 := Imp.go t36 (by omega))); (try (have i_t35 := Imp.go t35 (by omega))); (try (have i_rp4 := Imp.go rp4 (by omega))); (try (have i_rp4 := Imp.go rp4 (by omega))); (try (have i_t35 := Imp.go t35 (by omega))); (try (have i_t36 := Imp.go t36 (by omega))); omega), fun h => by rw [hsub] at h; rw [ek63]; decide, fun h => by rw [hsub] at h ⊢; exact ⟨(by rw [ek63]; exfalso; omega), by rw [hL14]; exact xlp7_3 (by first | omega | ((try (have i_t36 := Imp.go t36 (by omega))); (try (have i_t35 := Imp.go t35 (by omega))); (try (have i_rp4 := Imp.go rp4 (by omega))); (try (have i_rp4 := Imp.go rp4 (by omega))); (try (have i_t35 := Imp.go t35 (by omega))); (try (have i_t36 := Imp.go t36 (by omega))); omega))⟩⟩
            have hF12 : V54 12 = upd (V 12) (Int32.toNatClampNeg (V 6 7)) 1 := by rw [up2_fn hV54, show V6 12 = V 12 from funext (fun q => ajV6 12 q rfl)]
            have rp65 : ∀ k : Nat, k ≠ (Int32.toNatClampNeg (V 6 7)) → V54 12 k = V 12 k ∧ L56 14 k = L 14 k := fun k hk => ⟨by rw [hF12]; exact if_neg hk, by rw [hL56]; unfold upL vp_updL; rw [if_pos rfl, if_neg hk]⟩
            exact W.vret hx hb hr (fun t ht hW => ⟨⟨(V54, L56), rfl, ⟨hMV54, agV54, alL56, rp64, rp65⟩, by rw [ht]; exact hP, va_K.moved hW.alike hK, hD⟩, hS.F ht⟩) hS.2.2 dX9_cutNumber_107
        · skip
          have f66 : z32.toInt ≠ 0 := b_neq rfl (by decide) c37
          refine lv_iload_n hx hb dX9_cutNumber_30 rfl (lv_at hl 1 rfl) ?_
          refine lv_bipush (v := 9) hx hb dX9_cutNumber_31 (by decide) ?_
          refine lv_icmp_ge (tgt := 59) hx hb dX9_cutNumber_33 (by decide) (fun c67 => ?_) (fun c67 => ?_)
          · skip
            have f68 : 9 ≤ y5.toInt := b_le (by decide) rfl c67
            refine lv_lconst (v := 0) hx hb dX9_cutNumber_59 (by decide) ?_
            refine lv_lstore_n (lv' := [(2, .long 0), (1, .int y5), (0, .ref (ad 6))]) hx hb dX9_cutNumber_60 rfl hl (by decide) rfl (fun ls hl => ?_)
            obtain ⟨z69, ez69⟩ : ∃ y : Int32, y = y5 + 1 := ⟨_, rfl⟩
            have hz69 : z69.toInt = y5.toInt + 1 := i_add ez69 rfl (by decide) (by (first | exact om_2bd216318aa2 r1.2 r2.1 xlp7_1 f31 f68 | omega))
            refine lv_iinc (v := z69) (lv' := [(1, .int z69), (2, .long 0), (0, .ref (ad 6))]) hx hb dX9_cutNumber_61 hl (k := 1) rfl (by rw [ez69]; rfl) (by decide) rfl (fun ls hl => ?_)
            refine lv_aload_n hx hb dX9_cutNumber_64 rfl (lv_at hl 2 rfl) ?_
            refine lv_dup hx hb dX9_cutNumber_65 rfl ?_
            refine va_get (D := D) (ci := 9) (v := .int (V6 6 6)) (fs := (xfTape ad V6 L Z)) (C := RX9) (T := TX9) (N := 12) hx hb hg inX9 hown hK hP 6 xgTape rfl 6 (by decide) (hg _ w259) (fun _ h9 => h9) rfl dX9_cutNumber_66 ?_
            refine lv_iconst (v := 1) hx hb dX9_cutNumber_69 (by decide) ?_
            refine lv_iadd hx hb dX9_cutNumber_70 ?_
            refine lv_topi (fun z70 ez70 => ?_)
            have hz70 : z70.toInt = ((V6 6 6)).toInt + 1 := i_add ez70 rfl (by decide) (by (first | exact om_0af9c8bac061 r1.2 r2.1 xlp7_1 f31 f68 | omega))
            refine va_put (D := D) (ci := 9) (v := .int z70) (ty := tyX9 6) (fs := (xfTape ad V6 L Z)) (C := RX9) (T := TX9) (N := 12) hx hb hg inX9 tyX9 tyX9_ok nmX9 hown hK hP hD hS 6 xgTape rfl 6 (by decide) (hg _ w259) (fun _ h9 => h9) rfl (tyX9_ok 6 (by decide)) rfl rfl (Nat.le_of_ble_eq_true rfl) dX9_cutNumber_71 (fun H locs hP hD hS => ?_)
            obtain ⟨V71, hV71⟩ : ∃ z, z = up2 V6 6 6 z70 := ⟨_, rfl⟩
            have ew72 : (xw ad kk V6 L Z).set 6 ((ad 6), .inr (9, (xfTape ad V6 L Z).set 6 (.int z70))) = xw ad kk V71 L Z := by rw [hV71]; exact xw_ss (by decide) rfl (xb_si (by decide))
            have hP : va_P D vwCl (xw ad kk V71 L Z) H := by rw [← ew72]; exact hP
            have hD : va_D A (xw ad kk V71 L Z) := by rw [← ew72]; exact hD
            have hMV71 : rgd bX V71 := hMV6.put hV71 (show 0 ≤ z70.toInt ∧ z70.toInt ≤ 4000 from by first | exact om_5132599afa3b r1.2 r2.1 xlp7_1 f31 f68 hz70 | first | omega | ((try (have i_t36 := Imp.go t36 (by omega))); (try (have i_t35 := Imp.go t35 (by omega))); (try (have i_rp4 := Imp.go rp4 (by omega))); (try (have i_rp4 := Imp.go rp4 (by omega))); (try (have i_t35 := Imp.go t35 (by omega))); (try (have i_t36 := Imp.go t36 (by omega))); omega))
            have agV71 : agr [(6, 6)] [12, 14] V V71 := agV6.up hV71 rfl
            refine lv_goto (tgt := 4) hx hb dX9_cutNumber_74 (by decide) ?_
            have pq73 : (V71 6 5).toInt = ((V 6 5)).toInt := congrArg Int32.toInt ((up2_k hV71 (by decide)).trans (ajV6 6 5 rfl))
            have pq74 : (V71 6 6).toInt = z70.toInt := congrArg Int32.toInt (up2_s hV71)
            have kz75 := i_clamp (x := (V6 6 6)) rfl (by first | exact om_b5df54a3bb43 r2.1 xlp7_1 f68 | first | omega | ((try (have i_t36 := Imp.go t36 (by omega))); (try (have i_t35 := Imp.go t35 (by omega))); (try (have i_rp4 := Imp.go rp4 (by omega))); (try (have i_rp4 := Imp.go rp4 (by omega))); (try (have i_t35 := Imp.go t35 (by omega))); (try (have i_t36 := Imp.go t36 (by omega))); omega))
            have ek77 : Int32.toNatClampNeg (V6 6 6) = gs + y5.toInt.toNat := by first | exact om_5b2dccc3caad rp3 xlp7_1 f68 kz75 | first | omega | ((try (have i_t36 := Imp.go t36 (by omega))); (try (have i_t35 := Imp.go t35 (by omega))); (try (have i_rp4 := Imp.go rp4 (by omega))); (try (have i_rp4 := Imp.go rp4 (by omega))); (try (have i_t35 := Imp.go t35 (by omega))); (try (have i_t36 := Imp.go t36 (by omega))); omega)
            have er76 : (V 10 (Int32.toNatClampNeg (V6 6 6))) = V 10 (gs + y5.toInt.toNat) := by rw [ek77]
            have hp78 : isDg (V 10 (Int32.toNatClampNeg (V6 6 6))) := Imp.go t35 (by (first | exact om_2ebe32d50835 rgz32.1 rgz32.2 f66 | omega))
            exact ihlp7 0 z69 V71 H locs ls (by first | exact om_c7b799122141 rp3 r1.2 xlp7_1 f31 f68 hz69 | first | omega | ((try (have i_t36 := Imp.go t36 (by omega))); (try (have i_t35 := Imp.go t35 (by omega))); (try (have i_rp4 := Imp.go rp4 (by omega))); (try (have i_rp4 := Imp.go rp4 (by omega))); (try (have i_t35 := Imp.go t35 (by omega))); (try (have i_t36 := Imp.go t36 (by omega))); omega)) (show (V71 6 6).toInt ≤ (V71 6 5).toInt from by first | exact om_1257dc0753d6 f31 hz70 pq73 pq74 | first | omega | ((try (have i_t36 := Imp.go t36 (by omega))); (try (have i_t35 := Imp.go t35 (by omega))); (try (have i_rp4 := Imp.go rp4 (by omega))); (try (have i_rp4 := Imp.go rp4 (by omega))); (try (have i_t35 := Imp.go t35 (by omega))); (try (have i_t36 := Imp.go t36 (by omega))); omega)) (show (V 6 6).toInt + z69.toInt = (V71 6 6).toInt from by first | exact om_662a1892167c xlp7_1 hz69 hz70 pq74 | first | omega | ((try (have i_t36 := Imp.go t36 (by omega))); (try (have i_t35 := Imp.go t35 (by omega))); (try (have i_rp4 := Imp.go rp4 (by omega))); (try (have i_rp4 := Imp.go rp4 (by omega))); (try (have i_t35 := Imp.go t35 (by omega))); (try (have i_t36 := Imp.go t36 (by omega))); omega)) (fun k h => by by_cases c : (k : Int) < y5.toInt; exact xlp7_2 k c; have ek : k = y5.toInt.toNat := (by first | omega | ((try (have i_t36 := Imp.go t36 (by omega))); (try (have i_t35 := Imp.go t35 (by omega))); (try (have i_rp4 := Imp.go rp4 (by omega))); (try (have i_rp4 := Imp.go rp4 (by omega))); (try (have i_t35 := Imp.go t35 (by omega))); (try (have i_t36 := Imp.go t36 (by omega))); omega)); rw [ek, ← er76]; exact hp78) (fun h => absurd h (by first | omega | ((try (have i_t36 := Imp.go t36 (by omega))); (try (have i_t35 := Imp.go t35 (by omega))); (try (have i_rp4 := Imp.go rp4 (by omega))); (try (have i_rp4 := Imp.go rp4 (by omega))); (try (have i_t35 := Imp.go t35 (by omega))); (try (have i_t36 := Imp.go t36 (by omega))); omega))) (by first | exact om_91b464413286 hn pq8 hz70 pq73 pq74 | first | omega | ((try (have i_t36 := Imp.go t36 (by omega))); (try (have i_t35 := Imp.go t35 (by omega))); (try (have i_rp4 := Imp.go rp4 (by omega))); (try (have i_rp4 := Imp.go rp4 (by omega))); (try (have i_t35 := Imp.go t35 (by omega))); (try (have i_t36 := Imp.go t36 (by omega))); omega)) (agr.up (agr.tr agr.rf ajV6 (by decide) (by decide)) hV71 rfl) hMV71 hP hD hS (lv_sub hl [1, 0, 2] rfl)
          · skip
            have f79 : y5.toInt < 9 := b_nle (by decide) rfl c67
            refine lv_lload_n hx hb dX9_cutNumber_36 rfl (lv_at hl 0 rfl) ?_
            refine lv_ldc2 (v := 10) hx hb hown (hg _ w778) dX9_cutNumber_37 ?_
            refine lv_lmul hx hb dX9_cutNumber_40 ?_
            refine lv_topl (fun w80 ew80 => ?_)
            refine lv_aload_n hx hb dX9_cutNumber_41 rfl (lv_at hl 2 rfl) ?_
            refine va_get (D := D) (ci := 9) (v := .ref (ad 7)) (fs := (xfTape ad V6 L Z)) (C := RX9) (T := TX9) (N := 12) hx hb hg inX9 hown hK hP 6 xgTape rfl 0 (by decide) (hg _ w252) (fun _ h9 => h9) rfl dX9_cutNumber_42 ?_
            refine lv_aload_n hx hb dX9_cutNumber_45 rfl (lv_at hl 2 rfl) ?_
            refine va_get (D := D) (ci := 9) (v := .int (V6 6 6)) (fs := (xfTape ad V6 L Z)) (C := RX9) (T := TX9) (N := 12) hx hb hg inX9 hown hK hP 6 xgTape rfl 6 (by decide) (hg _ w259) (fun _ h9 => h9) rfl dX9_cutNumber_46 ?_
            refine va_bald (D := D) (i := (V6 6 6)) hx hb hK hP 7 0 rfl rfl (i_in (a := ((V6 6 6)).toInt) rfl (by first | exact om_fe2d53c3c384 r1.2 r2.1 klp7_0.1 xlp7_1 f31 | first | omega | ((try (have i_t36 := Imp.go t36 (by omega))); (try (have i_t35 := Imp.go t35 (by omega))); (try (have i_rp4 := Imp.go rp4 (by omega))); (try (have i_rp4 := Imp.go rp4 (by omega))); (try (have i_t35 := Imp.go t35 (by omega))); (try (have i_t36 := Imp.go t36 (by omega))); omega))) dX9_cutNumber_49 ?_
            refine g_top (v := (V 10 (Int32.toNatClampNeg (V6 6 6)))) (ajV6 10 (Int32.toNatClampNeg (V6 6 6)) rfl) ?_
            refine lv_i2l hx hb dX9_cutNumber_50 rfl ?_
            refine lv_topl (fun w81 ew81 => ?_)
            refine lv_ladd hx hb dX9_cutNumber_51 ?_
            refine lv_topl (fun w82 ew82 => ?_)
            refine lv_ldc2 (v := 48) hx hb hown (hg _ w779) dX9_cutNumber_52 ?_
            refine lv_lsub hx hb dX9_cutNumber_55 ?_
            refine lv_topl (fun w83 ew83 => ?_)
            refine lv_goto (tgt := 60) hx hb dX9_cutNumber_56 (by decide) ?_
            refine lv_lstore_n (lv' := [(2, .long w83), (1, .int y5), (0, .ref (ad 6))]) hx hb dX9_cutNumber_60 rfl hl (by decide) rfl (fun ls hl => ?_)
            obtain ⟨z84, ez84⟩ : ∃ y : Int32, y = y5 + 1 := ⟨_, rfl⟩
            have hz84 : z84.toInt = y5.toInt + 1 := i_add ez84 rfl (by decide) (by (first | exact om_778bd2371a89 klp7_0.1 f79 | omega))
            refine lv_iinc (v := z84) (lv' := [(1, .int z84), (2, .long w83), (0, .ref (ad 6))]) hx hb dX9_cutNumber_61 hl (k := 1) rfl (by rw [ez84]; rfl) (by decide) rfl (fun ls hl => ?_)
            refine lv_aload_n hx hb dX9_cutNumber_64 rfl (lv_at hl 2 rfl) ?_
            refine lv_dup hx hb dX9_cutNumber_65 rfl ?_
            refine va_get (D := D) (ci := 9) (v := .int (V6 6 6)) (fs := (xfTape ad V6 L Z)) (C := RX9) (T := TX9) (N := 12) hx hb hg inX9 hown hK hP 6 xgTape rfl 6 (by decide) (hg _ w259) (fun _ h9 => h9) rfl dX9_cutNumber_66 ?_
            refine lv_iconst (v := 1) hx hb dX9_cutNumber_69 (by decide) ?_
            refine lv_iadd hx hb dX9_cutNumber_70 ?_
            refine lv_topi (fun z85 ez85 => ?_)
            have hz85 : z85.toInt = ((V6 6 6)).toInt + 1 := i_add ez85 rfl (by decide) (by (first | exact om_41955fcb6566 r1.2 r2.1 klp7_0.1 xlp7_1 f31 | omega))
            refine va_put (D := D) (ci := 9) (v := .int z85) (ty := tyX9 6) (fs := (xfTape ad V6 L Z)) (C := RX9) (T := TX9) (N := 12) hx hb hg inX9 tyX9 tyX9_ok nmX9 hown hK hP hD hS 6 xgTape rfl 6 (by decide) (hg _ w259) (fun _ h9 => h9) rfl (tyX9_ok 6 (by decide)) rfl rfl (Nat.le_of_ble_eq_true rfl) dX9_cutNumber_71 (fun H locs hP hD hS => ?_)
            obtain ⟨V86, hV86⟩ : ∃ z, z = up2 V6 6 6 z85 := ⟨_, rfl⟩
            have ew87 : (xw ad kk V6 L Z).set 6 ((ad 6), .inr (9, (xfTape ad V6 L Z).set 6 (.int z85))) = xw ad kk V86 L Z := by rw [hV86]; exact xw_ss (by decide) rfl (xb_si (by decide))
            have hP : va_P D vwCl (xw ad kk V86 L Z) H := by rw [← ew87]; exact hP
            have hD : va_D A (xw ad kk V86 L Z) := by rw [← ew87]; exact hD
            have hMV86 : rgd bX V86 := hMV6.put hV86 (show 0 ≤ z85.toInt ∧ z85.toInt ≤ 4000 from by first | exact om_5bd73bff3568 r1.2 r2.1 klp7_0.1 xlp7_1 f31 hz85 | first | omega | ((try (have i_t36 := Imp.go t36 (by omega))); (try (have i_t35 := Imp.go t35 (by omega))); (try (have i_rp4 := Imp.go rp4 (by omega))); (try (have i_rp4 := Imp.go rp4 (by omega))); (try (have i_t35 := Imp.go t35 (by omega))); (try (have i_t36 := Imp.go t36 (by omega))); omega))
            have agV86 : agr [(6, 6)] [12, 14] V V86 := agV6.up hV86 rfl
            refine lv_goto (tgt := 4) hx hb dX9_cutNumber_74 (by decide) ?_
            have pq88 : (V86 6 5).toInt = ((V 6 5)).toInt := congrArg Int32.toInt ((up2_k hV86 (by decide)).trans (ajV6 6 5 rfl))
            have pq89 : (V86 6 6).toInt = z85.toInt := congrArg Int32.toInt (up2_s hV86)
            have kz90 := i_clamp (x := (V6 6 6)) rfl (by first | exact om_fb56619e55db r2.1 klp7_0.1 xlp7_1 | first | omega | ((try (have i_t36 := Imp.go t36 (by omega))); (try (have i_t35 := Imp.go t35 (by omega))); (try (have i_rp4 := Imp.go rp4 (by omega))); (try (have i_rp4 := Imp.go rp4 (by omega))); (try (have i_t35 := Imp.go t35 (by omega))); (try (have i_t36 := Imp.go t36 (by omega))); omega))
            have ek92 : Int32.toNatClampNeg (V6 6 6) = gs + y5.toInt.toNat := by first | exact om_a24691f97300 rp3 klp7_0.1 xlp7_1 kz90 | first | omega | ((try (have i_t36 := Imp.go t36 (by omega))); (try (have i_t35 := Imp.go t35 (by omega))); (try (have i_rp4 := Imp.go rp4 (by omega))); (try (have i_rp4 := Imp.go rp4 (by omega))); (try (have i_t35 := Imp.go t35 (by omega))); (try (have i_t36 := Imp.go t36 (by omega))); omega)
            have er91 : (V 10 (Int32.toNatClampNeg (V6 6 6))) = V 10 (gs + y5.toInt.toNat) := by rw [ek92]
            have hp93 : isDg (V 10 (Int32.toNatClampNeg (V6 6 6))) := Imp.go t35 (by (first | exact om_2ebe32d50835 rgz32.1 rgz32.2 f66 | omega))
            have kz94 := i_clamp (x := (V6 6 6)) rfl (by first | exact om_eafa9039069c r9.1 | first | omega | ((try (have i_t36 := Imp.go t36 (by omega))); (try (have i_t35 := Imp.go t35 (by omega))); (try (have i_rp4 := Imp.go rp4 (by omega))); (try (have i_rp4 := Imp.go rp4 (by omega))); (try (have i_t35 := Imp.go t35 (by omega))); (try (have i_t36 := Imp.go t36 (by omega))); omega))
            have ek96 : Int32.toNatClampNeg (V6 6 6) = gs + y5.toInt.toNat := by first | exact om_c9d69e9747b1 ek92 | first | omega | ((try (have i_t36 := Imp.go t36 (by omega))); (try (have i_t35 := Imp.go t35 (by omega))); (try (have i_rp4 := Imp.go rp4 (by omega))); (try (have i_rp4 := Imp.go rp4 (by omega))); (try (have i_t35 := Imp.go t35 (by omega))); (try (have i_t36 := Imp.go t36 (by omega))); omega)
            have er95 : (V 10 (Int32.toNatClampNeg (V6 6 6))) = V 10 (gs + y5.toInt.toNat) := by rw [ek96]
            have ez97 : z84.toInt.toNat = y5.toInt.toNat + 1 := by first | exact om_dbe402be208f klp7_0.1 hz84 | first | omega | ((try (have i_t36 := Imp.go t36 (by omega))); (try (have i_t35 := Imp.go t35 (by omega))); (try (have i_rp4 := Imp.go rp4 (by omega))); (try (have i_rp4 := Imp.go rp4 (by omega))); (try (have i_t35 := Imp.go t35 (by omega))); (try (have i_t36 := Imp.go t36 (by omega))); omega)
            exact ihlp7 w83 z84 V86 H locs ls (by first | exact om_9bdb3e8c8f6a rp3 xlp7_1 f79 hz84 kz90 ek92 | first | omega | ((try (have i_t36 := Imp.go t36 (by omega))); (try (have i_t35 := Imp.go t35 (by omega))); (try (have i_rp4 := Imp.go rp4 (by omega))); (try (have i_rp4 := Imp.go rp4 (by omega))); (try (have i_t35 := Imp.go t35 (by omega))); (try (have i_t36 := Imp.go t36 (by omega))); omega)) (show (V86 6 6).toInt ≤ (V86 6 5).toInt from by first | exact om_1257dc0753d6 f31 hz85 pq88 pq89 | first | omega | ((try (have i_t36 := Imp.go t36 (by omega))); (try (have i_t35 := Imp.go t35 (by omega))); (try (have i_rp4 := Imp.go rp4 (by omega))); (try (have i_rp4 := Imp.go rp4 (by omega))); (try (have i_t35 := Imp.go t35 (by omega))); (try (have i_t36 := Imp.go t36 (by omega))); omega)) (show (V 6 6).toInt + z84.toInt = (V86 6 6).toInt from by first | exact om_662a1892167c xlp7_1 hz84 hz85 pq89 | first | omega | ((try (have i_t36 := Imp.go t36 (by omega))); (try (have i_t35 := Imp.go t35 (by omega))); (try (have i_rp4 := Imp.go rp4 (by omega))); (try (have i_rp4 := Imp.go rp4 (by omega))); (try (have i_t35 := Imp.go t35 (by omega))); (try (have i_t36 := Imp.go t36 (by omega))); omega)) (fun k h => by by_cases c : (k : Int) < y5.toInt; exact xlp7_2 k c; have ek : k = y5.toInt.toNat := (by first | omega | ((try (have i_t36 := Imp.go t36 (by omega))); (try (have i_t35 := Imp.go t35 (by omega))); (try (have i_rp4 := Imp.go rp4 (by omega))); (try (have i_rp4 := Imp.go rp4 (by omega))); (try (have i_t35 := Imp.go t35 (by omega))); (try (have i_t36 := Imp.go t36 (by omega))); omega)); rw [ek, ← er91]; exact hp93) (fun h9 => by rw [ez97, nv_s, ← xlp7_3 (by first | omega | ((try (have i_t36 := Imp.go t36 (by omega))); (try (have i_t35 := Imp.go t35 (by omega))); (try (have i_rp4 := Imp.go rp4 (by omega))); (try (have i_rp4 := Imp.go rp4 (by omega))); (try (have i_t35 := Imp.go t35 (by omega))); (try (have i_t36 := Imp.go t36 (by omega))); omega)), ← er95]; exact ew83.trans (by rw [ew82, ew80, ew81])) (by first | exact om_91b464413286 hn pq8 hz85 pq88 pq89 | first | omega | ((try (have i_t36 := Imp.go t36 (by omega))); (try (have i_t35 := Imp.go t35 (by omega))); (try (have i_rp4 := Imp.go rp4 (by omega))); (try (have i_rp4 := Imp.go rp4 (by omega))); (try (have i_t35 := Imp.go t35 (by omega))); (try (have i_t36 := Imp.go t36 (by omega))); omega)) (agr.up (agr.tr agr.rf ajV6 (by decide) (by decide)) hV86 rfl) hMV86 hP hD hS (lv_sub hl [1, 0, 2] rfl)
  have r98 : Int32.toInt 0 = 0 := by decide
  exact lp7 (((V 6 5).toInt - (V 6 6).toInt + 1 : Int).toNat) 0 0 V H locs ls (by decide) (show (V 6 6).toInt ≤ (V 6 5).toInt from by first | exact om_122d4d21d372 rp1 | first | omega | ((try (have i_rp4 := Imp.go rp4 (by omega))); omega)) (show (V 6 6).toInt + (Int32.toInt 0) = (V 6 6).toInt from by first | exact om_85baa6bcbf4d r98 | first | omega | ((try (have i_rp4 := Imp.go rp4 (by omega))); omega)) (fun k h => absurd h (by have e0 : Int32.toInt 0 = 0 := (by decide); omega)) (fun _ => rfl) (by first | exact om_7441a7786481 | first | omega | ((try (have i_rp4 := Imp.go rp4 (by omega))); omega)) agr.rf hMV hP hD hS (lv_sub hl [0, 1, 2] rfl)
abbrev r_x_kindOf2 : Room := { frames := 0, cells := 0, slots := 0, locals := 0 }
abbrev q_x_kindOf2 (D : va_G) (ks : KS) (ad : Nat → Nat) (kk : Nat → ClassId) (V : Vf) (L : Lf) (Z : XZ) (p0 : Int64) (A : Nat → Prop) : Array Value → State → Outcome → State → Prop := va_Qi (fun (r : Int32) (_ : Unit) => (KW L p0 r.toInt)) (fun _ t => gq D A (xw ad kk V L Z) (xty kk Z) t) A
set_option maxHeartbeats 4000000 in
set_option maxRecDepth 100000 in
theorem x_kindOf2 (l : Launch) (D : va_G) (ks : KS) (sz : Nat) (ad : Nat → Nat) (kk : Nat → ClassId) (V : Vf) (L : Lf) (Z : XZ) (p0 : Int64) (hMV : rgd bX V)  : Met l yX9_kindOf (Cond.code yX9_kindOf cX9_kindOf 4 (some .int) :: GW) r_x_kindOf2 (va_Pc [.ref (ad 6), .long p0] (gp D ks (xw ad kk V L Z) (xty kk Z) sz)) (q_x_kindOf2 D ks ad kk V L Z p0 (va_A (xw ad kk V L Z) sz)) 0 0 (va_A (xw ad kk V L Z) sz) := by
  refine g_met (q_x_kindOf2 D ks ad kk V L Z p0) (by decide) (Nat.le_of_ble_eq_true rfl) ?_
  intro p e s m below meth c A ls H locs hx hb hr hml hown hg hlocks hin hnw hgk hP hK hD hS hA hl
  have hown : s.vm.findClass RX9 = some m.cls := hown
  have hl : lv_has ls 4 [(0, .ref (ad 6)), (1, .long p0)] := hl
  have hP : va_P D vwCl (xw ad kk V L Z) H := hP
  have hD : va_D A (xw ad kk V L Z) := hD
  have hK : va_K D vwCl (xty kk Z) s := hK
  refine lv_iconst (v := 0) hx hb dX9_kindOf_0 (by decide) ?_
  refine lv_istore_n (lv' := [(3, .int 0), (0, .ref (ad 6)), (1, .long p0)]) hx hb dX9_kindOf_1 rfl hl (by decide) rfl (fun ls hl => ?_)
  have lp2 : ∀ (fulp2 : Nat) (y1 : Int32) (H : Heap) (locs : List Loc) (ls : Array Slot), 0 ≤ y1.toInt ∧ y1.toInt ≤ 28 → (∀ k : Nat, (k : Int) < y1.toInt → L 11 k ≠ p0) → 28 - y1.toInt < (fulp2 : Int) → va_P D vwCl (xw ad kk V L Z) H → va_D A (xw ad kk V L Z) → va_S A s.heap H locs → lv_has ls 4 [(3, .int y1), (0, .ref (ad 6)), (1, .long p0)] → W p l e r_x_kindOf2 s m ([.ref (ad 6), .long p0] : List Value).toArray below meth c H locs 0 0 (MQ below (q_x_kindOf2 D ks ad kk V L Z p0 A) ([.ref (ad 6), .long p0] : List Value).toArray s 0 0 A) (F0 m 2 ls []) := by
    intro fulp2
    induction fulp2 with
    | zero =>
      intro y1 H locs ls klp2_0 xlp2_0 hn  hP hD hS hl
      exfalso; (first | exact om_8009d6250780 klp2_0.2 hn | omega)
    | succ fulp2 ihlp2 =>
      intro y1 H locs ls klp2_0 xlp2_0 hn  hP hD hS hl
      refine lv_iload_n hx hb dX9_kindOf_2 rfl (lv_at hl 0 rfl) ?_
      refine lv_bipush (v := 28) hx hb dX9_kindOf_3 (by decide) ?_
      refine lv_icmp_ge (tgt := 31) hx hb dX9_kindOf_5 (by decide) (fun c3 => ?_) (fun c3 => ?_)
      · skip
        have f4 : 28 ≤ y1.toInt := b_le (by decide) rfl c3
        refine lv_iconst (v := 3) hx hb dX9_kindOf_31 (by decide) ?_
        exact W.iret (v := 3) hx hb hr (fun t ht hW => ⟨⟨3, (), rfl, (Or.inl ⟨by decide, fun k hk => xlp2_0 k (by omega)⟩), by rw [ht]; exact hP, va_K.moved hW.alike hK, hD⟩, hS.F ht⟩) hS.2.2 dX9_kindOf_32
      · skip
        have f5 : y1.toInt < 28 := b_nle (by decide) rfl c3
        refine lv_aload_n hx hb dX9_kindOf_8 rfl (lv_at hl 1 rfl) ?_
        refine va_get (D := D) (ci := 9) (v := .ref (ad 8)) (fs := (xfTape ad V L Z)) (C := RX9) (T := TX9) (N := 12) hx hb hg inX9 hown hK hP 6 xgTape rfl 1 (by decide) (hg _ w253) (fun _ h9 => h9) rfl dX9_kindOf_9 ?_
        refine lv_iload_n hx hb dX9_kindOf_12 rfl (lv_at hl 0 rfl) ?_
        refine va_lald (D := D) (i := y1) hx hb hK hP 8 1 rfl rfl (i_in (a := y1.toInt) rfl (by (first | exact om_f6a89a6d9ec1 klp2_0.1 f5 | omega))) dX9_kindOf_13 ?_
        refine lv_lload_n hx hb dX9_kindOf_14 rfl (lv_at hl 2 rfl) ?_
        refine W.lcmp hx hb dX9_kindOf_15 ?_
        refine lv_topi (fun z6 ez6 => ?_)
        have hz6 := lcmp_f ez6
        refine lv_if_ne (tgt := 25) hx hb dX9_kindOf_16 (by decide) (fun c7 => ?_) (fun c7 => ?_)
        · skip
          have f8 : z6.toInt ≠ 0 := b_neq rfl (by decide) c7
          obtain ⟨z9, ez9⟩ : ∃ y : Int32, y = y1 + 1 := ⟨_, rfl⟩
          have hz9 : z9.toInt = y1.toInt + 1 := i_add ez9 rfl (by decide) (by (first | exact om_5bde2511380b klp2_0.1 f5 | omega))
          refine lv_iinc (v := z9) (lv' := [(3, .int z9), (0, .ref (ad 6)), (1, .long p0)]) hx hb dX9_kindOf_25 hl (k := 0) rfl (by rw [ez9]; rfl) (by decide) rfl (fun ls hl => ?_)
          refine lv_goto (tgt := 2) hx hb dX9_kindOf_28 (by decide) ?_
          have kz10 := i_clamp (x := y1) rfl (by (first | exact om_eafa9039069c klp2_0.1 | omega))
          exact ihlp2 z9 H locs ls (by (first | exact om_e53fff2320c6 klp2_0.1 f5 hz9 | omega)) (fun k h => by by_cases c : (k : Int) < y1.toInt; exact xlp2_0 k c; have ek : k = Int32.toNatClampNeg y1 := (by omega); rw [ek]; intro q; have q2 := congrArg Int64.toInt q; omega) (by (first | exact om_e591ec508e02 hn hz9 | omega)) hP hD hS (lv_sub hl [0, 1, 2] rfl)
        · skip
          have f11 : z6.toInt = 0 := b_eq rfl (by decide) c7
          refine lv_sipush (v := 128) hx hb dX9_kindOf_19 (by decide) ?_
          refine lv_iload_n hx hb dX9_kindOf_22 rfl (lv_at hl 0 rfl) ?_
          refine lv_iadd hx hb dX9_kindOf_23 ?_
          refine lv_topi (fun z12 ez12 => ?_)
          have hz12 : z12.toInt = 128 + y1.toInt := i_add ez12 (by decide) rfl (by (first | exact om_e545d8213972 klp2_0.1 f5 | omega))
          have kz13 := i_clamp (x := y1) rfl (by (first | exact om_eafa9039069c klp2_0.1 | omega))
          exact W.iret (v := z12) hx hb hr (fun t ht hW => ⟨⟨z12, (), rfl, (Or.inr ⟨Int32.toNatClampNeg y1, by omega, by omega, Int64.toInt_inj.mp (by omega)⟩), by rw [ht]; exact hP, va_K.moved hW.alike hK, hD⟩, hS.F ht⟩) hS.2.2 dX9_kindOf_24
  have r14 : Int32.toInt 0 = 0 := by decide
  exact lp2 ((28 - (Int32.toInt 0) + 1 : Int).toNat) 0 H locs ls (by decide) (fun k h => absurd h (by have e0 : Int32.toInt 0 = 0 := (by decide); omega)) (by (first | exact om_8d46326cbfc1 | omega)) hP hD hS (lv_sub hl [0, 1, 2] rfl)
abbrev r_x_codeOf2 : Room := { frames := 1, cells := 0, slots := 0, locals := 20 }
abbrev q_x_codeOf2 (D : va_G) (p0 : Int32) (A : Nat → Prop) : Array Value → State → Outcome → State → Prop := va_Qi (fun (r : Int32) (_ : Unit) => (r = (if 48 ≤ p0.toInt ∧ p0.toInt ≤ 57 then p0 - 48 + 27 else p0 - 97 + 1))) (fun _ t => gq D A [] [] t) A
set_option maxHeartbeats 4000000 in
set_option maxRecDepth 100000 in
theorem x_codeOf2 (l : Launch) (D : va_G) (ks : KS) (sz : Nat) (p0 : Int32)  : Met l yX9_codeOf (Cond.code yX9_codeOf cX9_codeOf 1 (some .int) :: GW) r_x_codeOf2 (va_Pc [.int p0] (gp D ks ([]) ([]) sz)) (q_x_codeOf2 D p0 (va_A ([]) sz)) 0 0 (va_A ([]) sz) := by
  refine g_met (q_x_codeOf2 D p0) (by decide) (Nat.le_of_ble_eq_true rfl) ?_
  intro p e s m below meth c A ls H locs hx hb hr hml hown hg hlocks hin hnw hgk hP hK hD hS hA hl
  have hown : s.vm.findClass RX9 = some m.cls := hown
  have hl : lv_has ls 1 [(0, .int p0)] := hl
  refine lv_iload_n hx hb dX9_codeOf_0 rfl (lv_at hl 0 rfl) ?_
  refine gE_int (g_runS (As := [.int p0]) (rest := []) (wc := []) (tc := []) hx hb hml hown hg gw_self hP hD hK hS hA hnw hgk [] [] (by decide) rfl rfl (x_isDigit2 l D ks H.size p0 ) w249 w250 w157 w251 hdS_yX9_isDigit ⟨Nat.le_of_ble_eq_true rfl, Nat.le_of_ble_eq_true rfl⟩ rfl hl.1 rfl (Nat.le_of_ble_eq_true rfl) dX9_codeOf_1 ⟨Nat.le_of_ble_eq_true rfl, Nat.le_of_ble_eq_true rfl⟩) hP hD hK hS hA (fun z1 u2 H locs w3 hP hD hK hS => ?_)
  obtain ⟨rgz1, t4, t5⟩ := w3
  have rgz1 : 0 ≤ z1.toInt ∧ z1.toInt ≤ 1 := rgz1
  have t4 : Imp (z1.toInt = 1) (48 ≤ p0.toInt ∧ p0.toInt ≤ 57) := t4
  have t5 : Imp (z1.toInt = 0) (p0.toInt < 48 ∨ 57 < p0.toInt) := t5
  refine lv_if_eq (tgt := 17) hx hb dX9_codeOf_4 (by decide) (fun c6 => ?_) (fun c6 => ?_)
  · skip
    have f7 : z1.toInt = 0 := b_eq rfl (by decide) c6
    refine lv_iload_n hx hb dX9_codeOf_17 rfl (lv_at hl 0 rfl) ?_
    refine lv_bipush (v := 97) hx hb dX9_codeOf_18 (by decide) ?_
    refine lv_isub hx hb dX9_codeOf_20 ?_
    have r8 := i_full p0
    refine lv_topi (fun z9 ez9 => ?_)
    have hz9 : Imp (-2147483648 ≤ p0.toInt - 97 ∧ p0.toInt - 97 ≤ 2147483647) (z9.toInt = p0.toInt - 97) := Imp.mk (fun hp => i_sub ez9 rfl (by decide) hp)
    refine lv_iconst (v := 1) hx hb dX9_codeOf_21 (by decide) ?_
    refine lv_iadd hx hb dX9_codeOf_22 ?_
    have r10 := i_full z9
    refine lv_topi (fun z11 ez11 => ?_)
    have hz11 : Imp (-2147483648 ≤ z9.toInt + 1 ∧ z9.toInt + 1 ≤ 2147483647) (z11.toInt = z9.toInt + 1) := Imp.mk (fun hp => i_add ez11 rfl (by decide) hp)
    exact W.iret (v := z11) hx hb hr (fun t ht hW => ⟨⟨z11, (), rfl, (by rw [if_neg (by have q := Imp.go t5 (by (first | exact om_b1799fcf2d63 rgz1.1 f7 | omega)); omega), ez11, ez9]), by rw [ht]; exact hP, va_K.moved hW.alike hK, hD⟩, hS.F ht⟩) hS.2.2 dX9_codeOf_23
  · skip
    have f12 : z1.toInt ≠ 0 := b_neq rfl (by decide) c6
    refine lv_iload_n hx hb dX9_codeOf_7 rfl (lv_at hl 0 rfl) ?_
    refine lv_bipush (v := 48) hx hb dX9_codeOf_8 (by decide) ?_
    refine lv_isub hx hb dX9_codeOf_10 ?_
    have r13 := i_full p0
    refine lv_topi (fun z14 ez14 => ?_)
    have hz14 : Imp (-2147483648 ≤ p0.toInt - 48 ∧ p0.toInt - 48 ≤ 2147483647) (z14.toInt = p0.toInt - 48) := Imp.mk (fun hp => i_sub ez14 rfl (by decide) hp)
    refine lv_bipush (v := 27) hx hb dX9_codeOf_11 (by decide) ?_
    refine lv_iadd hx hb dX9_codeOf_13 ?_
    have r15 := i_full z14
    refine lv_topi (fun z16 ez16 => ?_)
    have hz16 : Imp (-2147483648 ≤ z14.toInt + 27 ∧ z14.toInt + 27 ≤ 2147483647) (z16.toInt = z14.toInt + 27) := Imp.mk (fun hp => i_add ez16 rfl (by decide) hp)
    refine lv_goto (tgt := 23) hx hb dX9_codeOf_14 (by decide) ?_
    exact W.iret (v := z16) hx hb hr (fun t ht hW => ⟨⟨z16, (), rfl, (by rw [if_pos (Imp.go t4 (by (first | exact om_2ebe32d50835 rgz1.1 rgz1.2 f12 | omega))), ez16, ez14]), by rw [ht]; exact hP, va_K.moved hW.alike hK, hD⟩, hS.F ht⟩) hS.2.2 dX9_codeOf_23
abbrev r_x_cutWord2 : Room := { frames := 2, cells := 0, slots := 0, locals := 40 }
abbrev q_x_cutWord2 (D : va_G) (ks : KS) (ad : Nat → Nat) (kk : Nat → ClassId) (V : Vf) (L : Lf) (Z : XZ) (gs : Nat) (A : Nat → Prop) : Array Value → State → Outcome → State → Prop := va_Qv (fun (u : Vf × Lf) => rgd bX u.1 ∧ agr [(6, 6)] [12, 14] V u.1 ∧ agL [14] L u.2 ∧ (∃ e : Nat, RUN isLD (V 10) (V 6 5).toInt.toNat gs e ∧ (u.1 6 6).toInt = (e : Int) ∧ (12 < e - gs → (u.1 12 (Int32.toNatClampNeg (V 6 7))).toInt = 1) ∧ (e - gs ≤ 12 → KW L (wv (V 10) gs (e - gs)) (u.1 12 (Int32.toNatClampNeg (V 6 7))).toInt ∧ u.2 14 (Int32.toNatClampNeg (V 6 7)) = wv (V 10) gs (e - gs))) ∧ (∀ k : Nat, k ≠ (Int32.toNatClampNeg (V 6 7)) → u.1 12 k = V 12 k ∧ u.2 14 k = L 14 k)) (fun u t => gq D A (xw ad kk u.1 u.2 Z) (xty kk Z) t) A
set_option maxHeartbeats 4000000 in
set_option maxRecDepth 100000 in
theorem x_cutWord2 (l : Launch) (D : va_G) (ks : KS) (sz : Nat) (ad : Nat → Nat) (kk : Nat → ClassId) (V : Vf) (L : Lf) (Z : XZ) (gs : Nat) (hMV : rgd bX V) (rp1 : (V 6 6).toInt < (V 6 5).toInt) (rp2 : (V 6 7).toInt ≤ 3999) (rp3 : (V 6 6).toInt = (gs : Int)) (rp4 : isLt (V 10 gs))  : Met l yX9_cutWord (Cond.code yX9_cutWord cX9_cutWord 4 none :: GW) r_x_cutWord2 (va_Pc [.ref (ad 6)] (gp D ks (xw ad kk V L Z) (xty kk Z) sz)) (q_x_cutWord2 D ks ad kk V L Z  gs (va_A (xw ad kk V L Z) sz)) 0 0 (va_A (xw ad kk V L Z) sz) := by
  refine g_met (q_x_cutWord2 D ks ad kk V L Z  gs) (by decide) (Nat.le_of_ble_eq_true rfl) ?_
  intro p e s m below meth c A ls H locs hx hb hr hml hown hg hlocks hin hnw hgk hP hK hD hS hA hl
  have hown : s.vm.findClass RX9 = some m.cls := hown
  have hl : lv_has ls 4 [(0, .ref (ad 6))] := hl
  have hP : va_P D vwCl (xw ad kk V L Z) H := hP
  have hD : va_D A (xw ad kk V L Z) := hD
  have hK : va_K D vwCl (xty kk Z) s := hK
  have agV : agr [(6, 6)] [12, 14] V V := agr.rf
  have alL : agL [14] L L := agL.rf
  have r1 : 0 ≤ ((V 6 5)).toInt ∧ ((V 6 5)).toInt ≤ 4000 := hMV 6 5
  have r2 : 0 ≤ ((V 6 6)).toInt ∧ ((V 6 6)).toInt ≤ 4000 := hMV 6 6
  have r3 : 0 ≤ ((V 6 7)).toInt ∧ ((V 6 7)).toInt ≤ 4000 := hMV 6 7
  refine lv_iconst (v := 0) hx hb dX9_cutWord_0 (by decide) ?_
  refine lv_istore_n (lv' := [(1, .int 0), (0, .ref (ad 6))]) hx hb dX9_cutWord_1 rfl hl (by decide) rfl (fun ls hl => ?_)
  refine lv_lconst (v := 0) hx hb dX9_cutWord_2 (by decide) ?_
  refine lv_lstore_n (lv' := [(2, .long 0), (1, .int 0), (0, .ref (ad 6))]) hx hb dX9_cutWord_3 rfl hl (by decide) rfl (fun ls hl => ?_)
  have lp7 : ∀ (fulp7 : Nat) (y4 : Int64) (y5 : Int32) (V6 : Vf) (H : Heap) (locs : List Loc) (ls : Array Slot), 0 ≤ y5.toInt ∧ y5.toInt ≤ 4000 → (V6 6 6).toInt ≤ (V6 6 5).toInt → (V 6 6).toInt + y5.toInt = (V6 6 6).toInt → (∀ k : Nat, (k : Int) < y5.toInt → isLD (V 10 (gs + k))) → (y5.toInt ≤ 12 → y4 = wv (V 10) gs (y5.toInt).toNat) → (V6 6 5).toInt - (V6 6 6).toInt < (fulp7 : Int) → agr [(6, 6)] [] V V6 → rgd bX V6 → va_P D vwCl (xw ad kk V6 L Z) H → va_D A (xw ad kk V6 L Z) → va_S A s.heap H locs → lv_has ls 4 [(2, .long y4), (1, .int y5), (0, .ref (ad 6))] → W p l e r_x_cutWord2 s m ([.ref (ad 6)] : List Value).toArray below meth c H locs 0 0 (MQ below (q_x_cutWord2 D ks ad kk V L Z  gs A) ([.ref (ad 6)] : List Value).toArray s 0 0 A) (F0 m 4 ls []) := by
    intro fulp7
    induction fulp7 with
    | zero =>
      intro y4 y5 V6 H locs ls klp7_0 xlp7_0 xlp7_1 xlp7_2 xlp7_3 hn ajV6 hMV6 hP hD hS hl
      exfalso; (first | exact om_4634b1278845 xlp7_0 hn | omega)
    | succ fulp7 ihlp7 =>
      intro y4 y5 V6 H locs ls klp7_0 xlp7_0 xlp7_1 xlp7_2 xlp7_3 hn ajV6 hMV6 hP hD hS hl
      have agV6 : agr [(6, 6)] [12, 14] V V6 := agV.tr ajV6 (by decide) (by decide)
      have pq8 : (V6 6 5).toInt = ((V 6 5)).toInt := congrArg Int32.toInt (ajV6 6 5 rfl)
      have r9 : 0 ≤ ((V6 6 6)).toInt ∧ ((V6 6 6)).toInt ≤ 4000 := hMV6 6 6
      refine lv_aload_n hx hb dX9_cutWord_4 rfl (lv_at hl 2 rfl) ?_
      refine va_get (D := D) (ci := 9) (v := .int (V6 6 6)) (fs := (xfTape ad V6 L Z)) (C := RX9) (T := TX9) (N := 12) hx hb hg inX9 hown hK hP 6 xgTape rfl 6 (by decide) (hg _ w259) (fun _ h9 => h9) rfl dX9_cutWord_5 ?_
      refine lv_aload_n hx hb dX9_cutWord_8 rfl (lv_at hl 2 rfl) ?_
      refine va_get (D := D) (ci := 9) (v := .int (V6 6 5)) (fs := (xfTape ad V6 L Z)) (C := RX9) (T := TX9) (N := 12) hx hb hg inX9 hown hK hP 6 xgTape rfl 5 (by decide) (hg _ w258) (fun _ h9 => h9) rfl dX9_cutWord_9 ?_
      refine g_top (v := (V 6 5)) (ajV6 6 5 rfl) ?_
      refine lv_icmp_ge (tgt := 91) hx hb dX9_cutWord_12 (by decide) (fun c10 => ?_) (fun c10 => ?_)
      · skip
        have f11 : ((V 6 5)).toInt ≤ ((V6 6 6)).toInt := b_le rfl rfl c10
        refine lv_aload_n hx hb dX9_cutWord_91 rfl (lv_at hl 2 rfl) ?_
        refine va_get (D := D) (ci := 9) (v := .ref (ad 9)) (fs := (xfTape ad V6 L Z)) (C := RX9) (T := TX9) (N := 12) hx hb hg inX9 hown hK hP 6 xgTape rfl 2 (by decide) (hg _ w254) (fun _ h9 => h9) rfl dX9_cutWord_92 ?_
        refine lv_aload_n hx hb dX9_cutWord_95 rfl (lv_at hl 2 rfl) ?_
        refine va_get (D := D) (ci := 9) (v := .int (V6 6 7)) (fs := (xfTape ad V6 L Z)) (C := RX9) (T := TX9) (N := 12) hx hb hg inX9 hown hK hP 6 xgTape rfl 7 (by decide) (hg _ w260) (fun _ h9 => h9) rfl dX9_cutWord_96 ?_
        refine g_top (v := (V 6 7)) (ajV6 6 7 rfl) ?_
        refine lv_iload_n hx hb dX9_cutWord_99 rfl (lv_at hl 1 rfl) ?_
        refine lv_bipush (v := 12) hx hb dX9_cutWord_100 (by decide) ?_
        refine lv_icmp_le (tgt := 109) hx hb dX9_cutWord_102 (by decide) (fun c12 => ?_) (fun c12 => ?_)
        · skip
          have f13 : y5.toInt ≤ 12 := b_le rfl (by decide) c12
          refine lv_aload_n hx hb dX9_cutWord_109 rfl (lv_at hl 2 rfl) ?_
          refine lv_lload_n hx hb dX9_cutWord_110 rfl (lv_at hl 0 rfl) ?_
          refine gA_int (gA_runV (As := [.long y4]) (rest := [.int (V 6 7), .ref (ad 9)]) (ci := 9) (q0 := 6) hx hb hml hown hg hP hD hK hS hA hnw hgk (x_kindOf2 l D ks H.size ad kk V6 L Z y4 hMV6 ) w787 w789 w3 w157 w790 rfl xgTape hdV_yX9_kindOf ⟨Nat.le_of_ble_eq_true rfl, Nat.le_of_ble_eq_true rfl⟩ rfl hl.1 rfl (Nat.le_of_ble_eq_true rfl) dX9_cutWord_111 ⟨Nat.le_of_ble_eq_true rfl, Nat.le_of_ble_eq_true rfl⟩) hP hD hK hS hA (fun z14 u15 H locs w16 hP hD hK hS => ?_)
          have t17 := w16
          have t17 : KW L y4 z14.toInt := t17
          refine va_iast (D := D) (i := (V 6 7)) (x := z14) hx hb hK hP hD hS 9 2 rfl rfl (i_in (a := ((V 6 7)).toInt) rfl (by first | exact om_1452076f4170 rp2 r3.1 | first | omega | ((try (have i_rp4 := Imp.go rp4 (by omega))); omega))) dX9_cutWord_114 (fun H locs hP hD hS => ?_)
          obtain ⟨V18, hV18⟩ : ∃ z, z = up2 V6 12 (Int32.toNatClampNeg (V 6 7)) z14 := ⟨_, rfl⟩
          have ew19 : (xw ad kk V6 L Z).set 9 ((ad 9), .inl ((kk 9), 4001, .inl (upd (V6 12) (Int32.toNatClampNeg (V 6 7)) z14))) = xw ad kk V18 L Z := by rw [hV18]; exact xw_ss (by decide) rfl (xb_si (by decide))
          have hP : va_P D vwCl (xw ad kk V18 L Z) H := by rw [← ew19]; exact hP
          have hD : va_D A (xw ad kk V18 L Z) := by rw [← ew19]; exact hD
          have hMV18 : rgd bX V18 := hMV6.put hV18 (i_full _)
          have agV18 : agr [(6, 6)] [12, 14] V V18 := agV6.up hV18 rfl
          refine lv_aload_n hx hb dX9_cutWord_115 rfl (lv_at hl 2 rfl) ?_
          refine va_get (D := D) (ci := 9) (v := .ref (ad 11)) (fs := (xfTape ad V18 L Z)) (C := RX9) (T := TX9) (N := 12) hx hb hg inX9 hown hK hP 6 xgTape rfl 4 (by decide) (hg _ w256) (fun _ h9 => h9) rfl dX9_cutWord_116 ?_
          refine lv_aload_n hx hb dX9_cutWord_119 rfl (lv_at hl 2 rfl) ?_
          refine va_get (D := D) (ci := 9) (v := .int (V18 6 7)) (fs := (xfTape ad V18 L Z)) (C := RX9) (T := TX9) (N := 12) hx hb hg inX9 hown hK hP 6 xgTape rfl 7 (by decide) (hg _ w260) (fun _ h9 => h9) rfl dX9_cutWord_120 ?_
          refine g_top (v := (V 6 7)) ((up2_o hV18 (by decide)).trans (ajV6 6 7 rfl)) ?_
          refine lv_lload_n hx hb dX9_cutWord_123 rfl (lv_at hl 0 rfl) ?_
          refine va_last (D := D) (i := (V 6 7)) (x := y4) hx hb hK hP hD hS 11 4 rfl rfl (i_in (a := ((V 6 7)).toInt) rfl (by first | exact om_1452076f4170 rp2 r3.1 | first | omega | ((try (have i_rp4 := Imp.go rp4 (by omega))); omega))) dX9_cutWord_124 (fun H locs hP hD hS => ?_)
          obtain ⟨L20, hL20⟩ : ∃ z, z = upL L 14 (Int32.toNatClampNeg (V 6 7)) y4 := ⟨_, rfl⟩
          have ew21 : (xw ad kk V18 L Z).set 11 ((ad 11), .inl ((kk 11), 4001, .inr (.inl (vp_updL (L 14) (Int32.toNatClampNeg (V 6 7)) y4)))) = xw ad kk V18 L20 Z := by rw [hL20]; exact xw_ss (by decide) rfl (fun j => xe_L (fun a => absurd a.1 (by decide)))
          have hP : va_P D vwCl (xw ad kk V18 L20 Z) H := by rw [← ew21]; exact hP
          have hD : va_D A (xw ad kk V18 L20 Z) := by rw [← ew21]; exact hD
          have alL20 : agL [14] L L20 := agL.up alL hL20 rfl
          have hl0 : 0 < y5.toInt.toNat := by first | exact om_93fe111d81db rp1 xlp7_1 f11 | first | omega | ((try (have i_rp4 := Imp.go rp4 (by omega))); omega)
          have hrun : RUN isLD (V 10) (V 6 5).toInt.toNat gs (gs + y5.toInt.toNat) := ⟨by omega, by first | omega | ((try (have i_rp4 := Imp.go rp4 (by omega))); omega), fun k a b => by have z := xlp7_2 (k - gs) (by omega); rw [show gs + (k - gs) = k from by omega] at z; exact z, Or.inl (by first | omega | ((try (have i_rp4 := Imp.go rp4 (by omega))); omega))⟩
          have hsub : gs + y5.toInt.toNat - gs = y5.toInt.toNat := Nat.add_sub_cancel_left _ _
          have pq22 : (V18 6 6).toInt = ((V6 6 6)).toInt := congrArg Int32.toInt (up2_o hV18 (by decide))
          have ek23 : V18 12 (Int32.toNatClampNeg (V 6 7)) = z14 := (up2_s hV18)
          have hL14 : L20 14 (Int32.toNatClampNeg (V 6 7)) = y4 := by rw [hL20]; unfold upL vp_updL; rw [if_pos rfl, if_pos rfl]
          have rp24 : ∃ e : Nat, RUN isLD (V 10) (V 6 5).toInt.toNat gs e ∧ (V18 6 6).toInt = (e : Int) ∧ (12 < e - gs → (V18 12 (Int32.toNatClampNeg (V 6 7))).toInt = 1) ∧ (e - gs ≤ 12 → KW L (wv (V 10) gs (e - gs)) (V18 12 (Int32.toNatClampNeg (V 6 7))).toInt ∧ L20 14 (Int32.toNatClampNeg (V 6 7)) = wv (V 10) gs (e - gs)) := ⟨_, hrun, by first | omega | ((try (have i_rp4 := Imp.go rp4 (by omega))); omega), fun h => by rw [hsub] at h; rw [ek23]; exfalso; omega, fun h => by rw [hsub] at h ⊢; exact ⟨(by rw [ek23]; rw [← xlp7_3 (by first | omega | ((try (have i_rp4 := Imp.go rp4 (by omega))); omega))]; exact t17), by rw [hL14]; exact xlp7_3 (by first | omega | ((try (have i_rp4 := Imp.go rp4 (by omega))); omega))⟩⟩
          have hF12 : V18 12 = upd (V 12) (Int32.toNatClampNeg (V 6 7)) z14 := by rw [up2_fn hV18, show V6 12 = V 12 from funext (fun q => ajV6 12 q rfl)]
          have rp25 : ∀ k : Nat, k ≠ (Int32.toNatClampNeg (V 6 7)) → V18 12 k = V 12 k ∧ L20 14 k = L 14 k := fun k hk => ⟨by rw [hF12]; exact if_neg hk, by rw [hL20]; unfold upL vp_updL; rw [if_pos rfl, if_neg hk]⟩
          exact W.vret hx hb hr (fun t ht hW => ⟨⟨(V18, L20), rfl, ⟨hMV18, agV18, alL20, rp24, rp25⟩, by rw [ht]; exact hP, va_K.moved hW.alike hK, hD⟩, hS.F ht⟩) hS.2.2 dX9_cutWord_125
        · skip
          have f26 : 12 < y5.toInt := b_nle rfl (by decide) c12
          refine lv_iconst (v := 1) hx hb dX9_cutWord_105 (by decide) ?_
          refine lv_goto (tgt := 114) hx hb dX9_cutWord_106 (by decide) ?_
          refine va_iast (D := D) (i := (V 6 7)) (x := 1) hx hb hK hP hD hS 9 2 rfl rfl (i_in (a := ((V 6 7)).toInt) rfl (by first | exact om_1452076f4170 rp2 r3.1 | first | omega | ((try (have i_rp4 := Imp.go rp4 (by omega))); omega))) dX9_cutWord_114 (fun H locs hP hD hS => ?_)
          obtain ⟨V27, hV27⟩ : ∃ z, z = up2 V6 12 (Int32.toNatClampNeg (V 6 7)) 1 := ⟨_, rfl⟩
          have ew28 : (xw ad kk V6 L Z).set 9 ((ad 9), .inl ((kk 9), 4001, .inl (upd (V6 12) (Int32.toNatClampNeg (V 6 7)) 1))) = xw ad kk V27 L Z := by rw [hV27]; exact xw_ss (by decide) rfl (xb_si (by decide))
          have hP : va_P D vwCl (xw ad kk V27 L Z) H := by rw [← ew28]; exact hP
          have hD : va_D A (xw ad kk V27 L Z) := by rw [← ew28]; exact hD
          have hMV27 : rgd bX V27 := hMV6.put hV27 (i_full _)
          have agV27 : agr [(6, 6)] [12, 14] V V27 := agV6.up hV27 rfl
          refine lv_aload_n hx hb dX9_cutWord_115 rfl (lv_at hl 2 rfl) ?_
          refine va_get (D := D) (ci := 9) (v := .ref (ad 11)) (fs := (xfTape ad V27 L Z)) (C := RX9) (T := TX9) (N := 12) hx hb hg inX9 hown hK hP 6 xgTape rfl 4 (by decide) (hg _ w256) (fun _ h9 => h9) rfl dX9_cutWord_116 ?_
          refine lv_aload_n hx hb dX9_cutWord_119 rfl (lv_at hl 2 rfl) ?_
          refine va_get (D := D) (ci := 9) (v := .int (V27 6 7)) (fs := (xfTape ad V27 L Z)) (C := RX9) (T := TX9) (N := 12) hx hb hg inX9 hown hK hP 6 xgTape rfl 7 (by decide) (hg _ w260) (fun _ h9 => h9) rfl dX9_cutWord_120 ?_
          refine g_top (v := (V 6 7)) ((up2_o hV27 (by decide)).trans (ajV6 6 7 rfl)) ?_
          refine lv_lload_n hx hb dX9_cutWord_123 rfl (lv_at hl 0 rfl) ?_
          refine va_last (D := D) (i := (V 6 7)) (x := y4) hx hb hK hP hD hS 11 4 rfl rfl (i_in (a := ((V 6 7)).toInt) rfl (by first | exact om_1452076f4170 rp2 r3.1 | first | omega | ((try (have i_rp4 := Imp.go rp4 (by omega))); omega))) dX9_cutWord_124 (fun H locs hP hD hS => ?_)
          obtain ⟨L29, hL29⟩ : ∃ z, z = upL L 14 (Int32.toNatClampNeg (V 6 7)) y4 := ⟨_, rfl⟩
          have ew30 : (xw ad kk V27 L Z).set 11 ((ad 11), .inl ((kk 11), 4001, .inr (.inl (vp_updL (L 14) (Int32.toNatClampNeg (V 6 7)) y4)))) = xw ad kk V27 L29 Z := by rw [hL29]; exact xw_ss (by decide) rfl (fun j => xe_L (fun a => absurd a.1 (by decide)))
          have hP : va_P D vwCl (xw ad kk V27 L29 Z) H := by rw [← ew30]; exact hP
          have hD : va_D A (xw ad kk V27 L29 Z) := by rw [← ew30]; exact hD
          have alL29 : agL [14] L L29 := agL.up alL hL29 rfl
          have hl0 : 0 < y5.toInt.toNat := by first | exact om_994de55e8a17 f26 | first | omega | ((try (have i_rp4 := Imp.go rp4 (by omega))); omega)
          have hrun : RUN isLD (V 10) (V 6 5).toInt.toNat gs (gs + y5.toInt.toNat) := ⟨by omega, by first | omega | ((try (have i_rp4 := Imp.go rp4 (by omega))); omega), fun k a b => by have z := xlp7_2 (k - gs) (by omega); rw [show gs + (k - gs) = k from by omega] at z; exact z, Or.inl (by first | omega | ((try (have i_rp4 := Imp.go rp4 (by omega))); omega))⟩
          have hsub : gs + y5.toInt.toNat - gs = y5.toInt.toNat := Nat.add_sub_cancel_left _ _
          have pq31 : (V27 6 6).toInt = ((V6 6 6)).toInt := congrArg Int32.toInt (up2_o hV27 (by decide))
          have ek32 : V27 12 (Int32.toNatClampNeg (V 6 7)) = 1 := (up2_s hV27)
          have hL14 : L29 14 (Int32.toNatClampNeg (V 6 7)) = y4 := by rw [hL29]; unfold upL vp_updL; rw [if_pos rfl, if_pos rfl]
          have rp33 : ∃ e : Nat, RUN isLD (V 10) (V 6 5).toInt.toNat gs e ∧ (V27 6 6).toInt = (e : Int) ∧ (12 < e - gs → (V27 12 (Int32.toNatClampNeg (V 6 7))).toInt = 1) ∧ (e - gs ≤ 12 → KW L (wv (V 10) gs (e - gs)) (V27 12 (Int32.toNatClampNeg (V 6 7))).toInt ∧ L29 14 (Int32.toNatClampNeg (V 6 7)) = wv (V 10) gs (e - gs)) := ⟨_, hrun, by first | omega | ((try (have i_rp4 := Imp.go rp4 (by omega))); omega), fun h => by rw [hsub] at h; rw [ek32]; decide, fun h => by rw [hsub] at h ⊢; exact ⟨(by rw [ek32]; exfalso; omega), by rw [hL14]; exact xlp7_3 (by first | omega | ((try (have i_rp4 := Imp.go rp4 (by omega))); omega))⟩⟩
          have hF12 : V27 12 = upd (V 12) (Int32.toNatClampNeg (V 6 7)) 1 := by rw [up2_fn hV27, show V6 12 = V 12 from funext (fun q => ajV6 12 q rfl)]
          have rp34 : ∀ k : Nat, k ≠ (Int32.toNatClampNeg (V 6 7)) → V27 12 k = V 12 k ∧ L29 14 k = L 14 k := fun k hk => ⟨by rw [hF12]; exact if_neg hk, by rw [hL29]; unfold upL vp_updL; rw [if_pos rfl, if_neg hk]⟩
          exact W.vret hx hb hr (fun t ht hW => ⟨⟨(V27, L29), rfl, ⟨hMV27, agV27, alL29, rp33, rp34⟩, by rw [ht]; exact hP, va_K.moved hW.alike hK, hD⟩, hS.F ht⟩) hS.2.2 dX9_cutWord_125
      · skip
        have f35 : ((V6 6 6)).toInt < ((V 6 5)).toInt := b_nle rfl rfl c10
        refine lv_aload_n hx hb dX9_cutWord_15 rfl (lv_at hl 2 rfl) ?_
        refine va_get (D := D) (ci := 9) (v := .ref (ad 7)) (fs := (xfTape ad V6 L Z)) (C := RX9) (T := TX9) (N := 12) hx hb hg inX9 hown hK hP 6 xgTape rfl 0 (by decide) (hg _ w252) (fun _ h9 => h9) rfl dX9_cutWord_16 ?_
        refine lv_aload_n hx hb dX9_cutWord_19 rfl (lv_at hl 2 rfl) ?_
        refine va_get (D := D) (ci := 9) (v := .int (V6 6 6)) (fs := (xfTape ad V6 L Z)) (C := RX9) (T := TX9) (N := 12) hx hb hg inX9 hown hK hP 6 xgTape rfl 6 (by decide) (hg _ w259) (fun _ h9 => h9) rfl dX9_cutWord_20 ?_
        refine va_bald (D := D) (i := (V6 6 6)) hx hb hK hP 7 0 rfl rfl (i_in (a := ((V6 6 6)).toInt) rfl (by first | exact om_ae1ad81edeff r1.2 r9.1 f35 | first | omega | ((try (have i_rp4 := Imp.go rp4 (by omega))); omega))) dX9_cutWord_23 ?_
        refine g_top (v := (V 10 (Int32.toNatClampNeg (V6 6 6)))) (ajV6 10 (Int32.toNatClampNeg (V6 6 6)) rfl) ?_
        refine gE_int (g_runS (As := [.int (V 10 (Int32.toNatClampNeg (V6 6 6)))]) (rest := []) (wc := []) (tc := []) hx hb hml hown hg gw_self hP hD hK hS hA hnw hgk [] [] (by decide) rfl rfl (x_isLetter2 l D ks H.size (V 10 (Int32.toNatClampNeg (V6 6 6))) ) w780 w781 w157 w782 hdS_yX9_isLetter ⟨Nat.le_of_ble_eq_true rfl, Nat.le_of_ble_eq_true rfl⟩ rfl hl.1 rfl (Nat.le_of_ble_eq_true rfl) dX9_cutWord_24 ⟨Nat.le_of_ble_eq_true rfl, Nat.le_of_ble_eq_true rfl⟩) hP hD hK hS hA (fun z36 u37 H locs w38 hP hD hK hS => ?_)
        obtain ⟨rgz36, t39, t40⟩ := w38
        have rgz36 : 0 ≤ z36.toInt ∧ z36.toInt ≤ 1 := rgz36
        have t39 : Imp (z36.toInt = 1) (97 ≤ ((V 10 (Int32.toNatClampNeg (V6 6 6)))).toInt ∧ ((V 10 (Int32.toNatClampNeg (V6 6 6)))).toInt ≤ 122) := t39
        have t40 : Imp (z36.toInt = 0) (((V 10 (Int32.toNatClampNeg (V6 6 6)))).toInt < 97 ∨ 122 < ((V 10 (Int32.toNatClampNeg (V6 6 6)))).toInt) := t40
        refine lv_if_ne (tgt := 45) hx hb dX9_cutWord_27 (by decide) (fun c41 => ?_) (fun c41 => ?_)
        · skip
          have f42 : z36.toInt ≠ 0 := b_neq rfl (by decide) c41
          refine lv_iload_n hx hb dX9_cutWord_45 rfl (lv_at hl 1 rfl) ?_
          refine lv_bipush (v := 12) hx hb dX9_cutWord_46 (by decide) ?_
          refine lv_icmp_ge (tgt := 73) hx hb dX9_cutWord_48 (by decide) (fun c43 => ?_) (fun c43 => ?_)
          · skip
            have f44 : 12 ≤ y5.toInt := b_le (by decide) rfl c43
            refine lv_lconst (v := 0) hx hb dX9_cutWord_73 (by decide) ?_
            refine lv_lstore_n (lv' := [(2, .long 0), (1, .int y5), (0, .ref (ad 6))]) hx hb dX9_cutWord_74 rfl hl (by decide) rfl (fun ls hl => ?_)
            obtain ⟨z45, ez45⟩ : ∃ y : Int32, y = y5 + 1 := ⟨_, rfl⟩
            have hz45 : z45.toInt = y5.toInt + 1 := i_add ez45 rfl (by decide) (by (first | exact om_89fadfb637be r1.2 r2.1 xlp7_1 f35 f44 | omega))
            refine lv_iinc (v := z45) (lv' := [(1, .int z45), (2, .long 0), (0, .ref (ad 6))]) hx hb dX9_cutWord_75 hl (k := 1) rfl (by rw [ez45]; rfl) (by decide) rfl (fun ls hl => ?_)
            refine lv_aload_n hx hb dX9_cutWord_78 rfl (lv_at hl 2 rfl) ?_
            refine lv_dup hx hb dX9_cutWord_79 rfl ?_
            refine va_get (D := D) (ci := 9) (v := .int (V6 6 6)) (fs := (xfTape ad V6 L Z)) (C := RX9) (T := TX9) (N := 12) hx hb hg inX9 hown hK hP 6 xgTape rfl 6 (by decide) (hg _ w259) (fun _ h9 => h9) rfl dX9_cutWord_80 ?_
            refine lv_iconst (v := 1) hx hb dX9_cutWord_83 (by decide) ?_
            refine lv_iadd hx hb dX9_cutWord_84 ?_
            refine lv_topi (fun z46 ez46 => ?_)
            have hz46 : z46.toInt = ((V6 6 6)).toInt + 1 := i_add ez46 rfl (by decide) (by (first | exact om_5c2f98f06f05 r1.2 r2.1 xlp7_1 f35 f44 | omega))
            refine va_put (D := D) (ci := 9) (v := .int z46) (ty := tyX9 6) (fs := (xfTape ad V6 L Z)) (C := RX9) (T := TX9) (N := 12) hx hb hg inX9 tyX9 tyX9_ok nmX9 hown hK hP hD hS 6 xgTape rfl 6 (by decide) (hg _ w259) (fun _ h9 => h9) rfl (tyX9_ok 6 (by decide)) rfl rfl (Nat.le_of_ble_eq_true rfl) dX9_cutWord_85 (fun H locs hP hD hS => ?_)
            obtain ⟨V47, hV47⟩ : ∃ z, z = up2 V6 6 6 z46 := ⟨_, rfl⟩
            have ew48 : (xw ad kk V6 L Z).set 6 ((ad 6), .inr (9, (xfTape ad V6 L Z).set 6 (.int z46))) = xw ad kk V47 L Z := by rw [hV47]; exact xw_ss (by decide) rfl (xb_si (by decide))
            have hP : va_P D vwCl (xw ad kk V47 L Z) H := by rw [← ew48]; exact hP
            have hD : va_D A (xw ad kk V47 L Z) := by rw [← ew48]; exact hD
            have hMV47 : rgd bX V47 := hMV6.put hV47 (show 0 ≤ z46.toInt ∧ z46.toInt ≤ 4000 from by first | exact om_a97166e33c63 r1.2 r2.1 xlp7_1 f35 f44 hz46 | first | omega | ((try (have i_t40 := Imp.go t40 (by omega))); (try (have i_t39 := Imp.go t39 (by omega))); (try (have i_rp4 := Imp.go rp4 (by omega))); (try (have i_rp4 := Imp.go rp4 (by omega))); (try (have i_t39 := Imp.go t39 (by omega))); (try (have i_t40 := Imp.go t40 (by omega))); omega))
            have agV47 : agr [(6, 6)] [12, 14] V V47 := agV6.up hV47 rfl
            refine lv_goto (tgt := 4) hx hb dX9_cutWord_88 (by decide) ?_
            have pq49 : (V47 6 5).toInt = ((V 6 5)).toInt := congrArg Int32.toInt ((up2_k hV47 (by decide)).trans (ajV6 6 5 rfl))
            have pq50 : (V47 6 6).toInt = z46.toInt := congrArg Int32.toInt (up2_s hV47)
            have kz51 := i_clamp (x := (V6 6 6)) rfl (by first | exact om_d873b6e6eff2 r2.1 xlp7_1 f44 | first | omega | ((try (have i_t40 := Imp.go t40 (by omega))); (try (have i_t39 := Imp.go t39 (by omega))); (try (have i_rp4 := Imp.go rp4 (by omega))); (try (have i_rp4 := Imp.go rp4 (by omega))); (try (have i_t39 := Imp.go t39 (by omega))); (try (have i_t40 := Imp.go t40 (by omega))); omega))
            have ek53 : Int32.toNatClampNeg (V6 6 6) = gs + y5.toInt.toNat := by first | exact om_bc36fdf4844e rp3 xlp7_1 f44 kz51 | first | omega | ((try (have i_t40 := Imp.go t40 (by omega))); (try (have i_t39 := Imp.go t39 (by omega))); (try (have i_rp4 := Imp.go rp4 (by omega))); (try (have i_rp4 := Imp.go rp4 (by omega))); (try (have i_t39 := Imp.go t39 (by omega))); (try (have i_t40 := Imp.go t40 (by omega))); omega)
            have er52 : (V 10 (Int32.toNatClampNeg (V6 6 6))) = V 10 (gs + y5.toInt.toNat) := by rw [ek53]
            have hp54 : isLD (V 10 (Int32.toNatClampNeg (V6 6 6))) := Or.inl (Imp.go t39 (by (first | exact om_2ebe32d50835 rgz36.1 rgz36.2 f42 | omega)))
            exact ihlp7 0 z45 V47 H locs ls (by first | exact om_42da437a9ba1 rp3 r1.2 xlp7_1 f35 f44 hz45 | first | omega | ((try (have i_t40 := Imp.go t40 (by omega))); (try (have i_t39 := Imp.go t39 (by omega))); (try (have i_rp4 := Imp.go rp4 (by omega))); (try (have i_rp4 := Imp.go rp4 (by omega))); (try (have i_t39 := Imp.go t39 (by omega))); (try (have i_t40 := Imp.go t40 (by omega))); omega)) (show (V47 6 6).toInt ≤ (V47 6 5).toInt from by first | exact om_1257dc0753d6 f35 hz46 pq49 pq50 | first | omega | ((try (have i_t40 := Imp.go t40 (by omega))); (try (have i_t39 := Imp.go t39 (by omega))); (try (have i_rp4 := Imp.go rp4 (by omega))); (try (have i_rp4 := Imp.go rp4 (by omega))); (try (have i_t39 := Imp.go t39 (by omega))); (try (have i_t40 := Imp.go t40 (by omega))); omega)) (show (V 6 6).toInt + z45.toInt = (V47 6 6).toInt from by first | exact om_662a1892167c xlp7_1 hz45 hz46 pq50 | first | omega | ((try (have i_t40 := Imp.go t40 (by omega))); (try (have i_t39 := Imp.go t39 (by omega))); (try (have i_rp4 := Imp.go rp4 (by omega))); (try (have i_rp4 := Imp.go rp4 (by omega))); (try (have i_t39 := Imp.go t39 (by omega))); (try (have i_t40 := Imp.go t40 (by omega))); omega)) (fun k h => by by_cases c : (k : Int) < y5.toInt; exact xlp7_2 k c; have ek : k = y5.toInt.toNat := (by first | omega | ((try (have i_t40 := Imp.go t40 (by omega))); (try (have i_t39 := Imp.go t39 (by omega))); (try (have i_rp4 := Imp.go rp4 (by omega))); (try (have i_rp4 := Imp.go rp4 (by omega))); (try (have i_t39 := Imp.go t39 (by omega))); (try (have i_t40 := Imp.go t40 (by omega))); omega)); rw [ek, ← er52]; exact hp54) (fun h => absurd h (by first | omega | ((try (have i_t40 := Imp.go t40 (by omega))); (try (have i_t39 := Imp.go t39 (by omega))); (try (have i_rp4 := Imp.go rp4 (by omega))); (try (have i_rp4 := Imp.go rp4 (by omega))); (try (have i_t39 := Imp.go t39 (by omega))); (try (have i_t40 := Imp.go t40 (by omega))); omega))) (by first | exact om_91b464413286 hn pq8 hz46 pq49 pq50 | first | omega | ((try (have i_t40 := Imp.go t40 (by omega))); (try (have i_t39 := Imp.go t39 (by omega))); (try (have i_rp4 := Imp.go rp4 (by omega))); (try (have i_rp4 := Imp.go rp4 (by omega))); (try (have i_t39 := Imp.go t39 (by omega))); (try (have i_t40 := Imp.go t40 (by omega))); omega)) (agr.up (agr.tr agr.rf ajV6 (by decide) (by decide)) hV47 rfl) hMV47 hP hD hS (lv_sub hl [1, 0, 2] rfl)
          · skip
            have f55 : y5.toInt < 12 := b_nle (by decide) rfl c43
            refine lv_lload_n hx hb dX9_cutWord_51 rfl (lv_at hl 0 rfl) ?_
            refine lv_ldc2 (v := 37) hx hb hown (hg _ w245) dX9_cutWord_52 ?_
            refine lv_lmul hx hb dX9_cutWord_55 ?_
            refine lv_topl (fun w56 ew56 => ?_)
            refine lv_aload_n hx hb dX9_cutWord_56 rfl (lv_at hl 2 rfl) ?_
            refine va_get (D := D) (ci := 9) (v := .ref (ad 7)) (fs := (xfTape ad V6 L Z)) (C := RX9) (T := TX9) (N := 12) hx hb hg inX9 hown hK hP 6 xgTape rfl 0 (by decide) (hg _ w252) (fun _ h9 => h9) rfl dX9_cutWord_57 ?_
            refine lv_aload_n hx hb dX9_cutWord_60 rfl (lv_at hl 2 rfl) ?_
            refine va_get (D := D) (ci := 9) (v := .int (V6 6 6)) (fs := (xfTape ad V6 L Z)) (C := RX9) (T := TX9) (N := 12) hx hb hg inX9 hown hK hP 6 xgTape rfl 6 (by decide) (hg _ w259) (fun _ h9 => h9) rfl dX9_cutWord_61 ?_
            refine va_bald (D := D) (i := (V6 6 6)) hx hb hK hP 7 0 rfl rfl (i_in (a := ((V6 6 6)).toInt) rfl (by first | exact om_fe2d53c3c384 r1.2 r2.1 klp7_0.1 xlp7_1 f35 | first | omega | ((try (have i_t40 := Imp.go t40 (by omega))); (try (have i_t39 := Imp.go t39 (by omega))); (try (have i_rp4 := Imp.go rp4 (by omega))); (try (have i_rp4 := Imp.go rp4 (by omega))); (try (have i_t39 := Imp.go t39 (by omega))); (try (have i_t40 := Imp.go t40 (by omega))); omega))) dX9_cutWord_64 ?_
            refine g_top (v := (V 10 (Int32.toNatClampNeg (V6 6 6)))) (ajV6 10 (Int32.toNatClampNeg (V6 6 6)) rfl) ?_
            refine gE_int (g_runS (As := [.int (V 10 (Int32.toNatClampNeg (V6 6 6)))]) (rest := [.long w56]) (wc := []) (tc := []) hx hb hml hown hg gw_self hP hD hK hS hA hnw hgk [] [] (by decide) rfl rfl (x_codeOf2 l D ks H.size (V 10 (Int32.toNatClampNeg (V6 6 6))) ) w246 w247 w157 w248 hdS_yX9_codeOf ⟨Nat.le_of_ble_eq_true rfl, Nat.le_of_ble_eq_true rfl⟩ rfl hl.1 rfl (Nat.le_of_ble_eq_true rfl) dX9_cutWord_65 ⟨Nat.le_of_ble_eq_true rfl, Nat.le_of_ble_eq_true rfl⟩) hP hD hK hS hA (fun z57 u58 H locs w59 hP hD hK hS => ?_)
            have t60 := w59
            have t60 : z57 = (if 48 ≤ ((V 10 (Int32.toNatClampNeg (V6 6 6)))).toInt ∧ ((V 10 (Int32.toNatClampNeg (V6 6 6)))).toInt ≤ 57 then (V 10 (Int32.toNatClampNeg (V6 6 6))) - 48 + 27 else (V 10 (Int32.toNatClampNeg (V6 6 6))) - 97 + 1) := t60
            refine lv_i2l hx hb dX9_cutWord_68 rfl ?_
            refine lv_topl (fun w61 ew61 => ?_)
            refine lv_ladd hx hb dX9_cutWord_69 ?_
            refine lv_topl (fun w62 ew62 => ?_)
            refine lv_goto (tgt := 74) hx hb dX9_cutWord_70 (by decide) ?_
            refine lv_lstore_n (lv' := [(2, .long w62), (1, .int y5), (0, .ref (ad 6))]) hx hb dX9_cutWord_74 rfl hl (by decide) rfl (fun ls hl => ?_)
            obtain ⟨z63, ez63⟩ : ∃ y : Int32, y = y5 + 1 := ⟨_, rfl⟩
            have hz63 : z63.toInt = y5.toInt + 1 := i_add ez63 rfl (by decide) (by (first | exact om_4464765f026c klp7_0.1 f55 | omega))
            refine lv_iinc (v := z63) (lv' := [(1, .int z63), (2, .long w62), (0, .ref (ad 6))]) hx hb dX9_cutWord_75 hl (k := 1) rfl (by rw [ez63]; rfl) (by decide) rfl (fun ls hl => ?_)
            refine lv_aload_n hx hb dX9_cutWord_78 rfl (lv_at hl 2 rfl) ?_
            refine lv_dup hx hb dX9_cutWord_79 rfl ?_
            refine va_get (D := D) (ci := 9) (v := .int (V6 6 6)) (fs := (xfTape ad V6 L Z)) (C := RX9) (T := TX9) (N := 12) hx hb hg inX9 hown hK hP 6 xgTape rfl 6 (by decide) (hg _ w259) (fun _ h9 => h9) rfl dX9_cutWord_80 ?_
            refine lv_iconst (v := 1) hx hb dX9_cutWord_83 (by decide) ?_
            refine lv_iadd hx hb dX9_cutWord_84 ?_
            refine lv_topi (fun z64 ez64 => ?_)
            have hz64 : z64.toInt = ((V6 6 6)).toInt + 1 := i_add ez64 rfl (by decide) (by (first | exact om_41955fcb6566 r1.2 r2.1 klp7_0.1 xlp7_1 f35 | omega))
            refine va_put (D := D) (ci := 9) (v := .int z64) (ty := tyX9 6) (fs := (xfTape ad V6 L Z)) (C := RX9) (T := TX9) (N := 12) hx hb hg inX9 tyX9 tyX9_ok nmX9 hown hK hP hD hS 6 xgTape rfl 6 (by decide) (hg _ w259) (fun _ h9 => h9) rfl (tyX9_ok 6 (by decide)) rfl rfl (Nat.le_of_ble_eq_true rfl) dX9_cutWord_85 (fun H locs hP hD hS => ?_)
            obtain ⟨V65, hV65⟩ : ∃ z, z = up2 V6 6 6 z64 := ⟨_, rfl⟩
            have ew66 : (xw ad kk V6 L Z).set 6 ((ad 6), .inr (9, (xfTape ad V6 L Z).set 6 (.int z64))) = xw ad kk V65 L Z := by rw [hV65]; exact xw_ss (by decide) rfl (xb_si (by decide))
            have hP : va_P D vwCl (xw ad kk V65 L Z) H := by rw [← ew66]; exact hP
            have hD : va_D A (xw ad kk V65 L Z) := by rw [← ew66]; exact hD
            have hMV65 : rgd bX V65 := hMV6.put hV65 (show 0 ≤ z64.toInt ∧ z64.toInt ≤ 4000 from by first | exact om_5bd73bff3568 r1.2 r2.1 klp7_0.1 xlp7_1 f35 hz64 | first | omega | ((try (have i_t40 := Imp.go t40 (by omega))); (try (have i_t39 := Imp.go t39 (by omega))); (try (have i_rp4 := Imp.go rp4 (by omega))); (try (have i_rp4 := Imp.go rp4 (by omega))); (try (have i_t39 := Imp.go t39 (by omega))); (try (have i_t40 := Imp.go t40 (by omega))); omega))
            have agV65 : agr [(6, 6)] [12, 14] V V65 := agV6.up hV65 rfl
            refine lv_goto (tgt := 4) hx hb dX9_cutWord_88 (by decide) ?_
            have pq67 : (V65 6 5).toInt = ((V 6 5)).toInt := congrArg Int32.toInt ((up2_k hV65 (by decide)).trans (ajV6 6 5 rfl))
            have pq68 : (V65 6 6).toInt = z64.toInt := congrArg Int32.toInt (up2_s hV65)
            have kz69 := i_clamp (x := (V6 6 6)) rfl (by first | exact om_fb56619e55db r2.1 klp7_0.1 xlp7_1 | first | omega | ((try (have i_t40 := Imp.go t40 (by omega))); (try (have i_t39 := Imp.go t39 (by omega))); (try (have i_rp4 := Imp.go rp4 (by omega))); (try (have i_rp4 := Imp.go rp4 (by omega))); (try (have i_t39 := Imp.go t39 (by omega))); (try (have i_t40 := Imp.go t40 (by omega))); omega))
            have ek71 : Int32.toNatClampNeg (V6 6 6) = gs + y5.toInt.toNat := by first | exact om_a24691f97300 rp3 klp7_0.1 xlp7_1 kz69 | first | omega | ((try (have i_t40 := Imp.go t40 (by omega))); (try (have i_t39 := Imp.go t39 (by omega))); (try (have i_rp4 := Imp.go rp4 (by omega))); (try (have i_rp4 := Imp.go rp4 (by omega))); (try (have i_t39 := Imp.go t39 (by omega))); (try (have i_t40 := Imp.go t40 (by omega))); omega)
            have er70 : (V 10 (Int32.toNatClampNeg (V6 6 6))) = V 10 (gs + y5.toInt.toNat) := by rw [ek71]
            have hp72 : isLD (V 10 (Int32.toNatClampNeg (V6 6 6))) := Or.inl (Imp.go t39 (by (first | exact om_2ebe32d50835 rgz36.1 rgz36.2 f42 | omega)))
            have kz73 := i_clamp (x := (V6 6 6)) rfl (by first | exact om_eafa9039069c r9.1 | first | omega | ((try (have i_t40 := Imp.go t40 (by omega))); (try (have i_t39 := Imp.go t39 (by omega))); (try (have i_rp4 := Imp.go rp4 (by omega))); (try (have i_rp4 := Imp.go rp4 (by omega))); (try (have i_t39 := Imp.go t39 (by omega))); (try (have i_t40 := Imp.go t40 (by omega))); omega))
            have ek75 : Int32.toNatClampNeg (V6 6 6) = gs + y5.toInt.toNat := by first | exact om_c9d69e9747b1 ek71 | first | omega | ((try (have i_t40 := Imp.go t40 (by omega))); (try (have i_t39 := Imp.go t39 (by omega))); (try (have i_rp4 := Imp.go rp4 (by omega))); (try (have i_rp4 := Imp.go rp4 (by omega))); (try (have i_t39 := Imp.go t39 (by omega))); (try (have i_t40 := Imp.go t40 (by omega))); omega)
            have er74 : (V 10 (Int32.toNatClampNeg (V6 6 6))) = V 10 (gs + y5.toInt.toNat) := by rw [ek75]
            have ez76 : z63.toInt.toNat = y5.toInt.toNat + 1 := by first | exact om_dbe402be208f klp7_0.1 hz63 | first | omega | ((try (have i_t40 := Imp.go t40 (by omega))); (try (have i_t39 := Imp.go t39 (by omega))); (try (have i_rp4 := Imp.go rp4 (by omega))); (try (have i_rp4 := Imp.go rp4 (by omega))); (try (have i_t39 := Imp.go t39 (by omega))); (try (have i_t40 := Imp.go t40 (by omega))); omega)
            exact ihlp7 w62 z63 V65 H locs ls (by first | exact om_a88abdac34d9 rp3 xlp7_1 f55 hz63 kz69 ek71 | first | omega | ((try (have i_t40 := Imp.go t40 (by omega))); (try (have i_t39 := Imp.go t39 (by omega))); (try (have i_rp4 := Imp.go rp4 (by omega))); (try (have i_rp4 := Imp.go rp4 (by omega))); (try (have i_t39 := Imp.go t39 (by omega))); (try (have i_t40 := Imp.go t40 (by omega))); omega)) (show (V65 6 6).toInt ≤ (V65 6 5).toInt from by first | exact om_1257dc0753d6 f35 hz64 pq67 pq68 | first | omega | ((try (have i_t40 := Imp.go t40 (by omega))); (try (have i_t39 := Imp.go t39 (by omega))); (try (have i_rp4 := Imp.go rp4 (by omega))); (try (have i_rp4 := Imp.go rp4 (by omega))); (try (have i_t39 := Imp.go t39 (by omega))); (try (have i_t40 := Imp.go t40 (by omega))); omega)) (show (V 6 6).toInt + z63.toInt = (V65 6 6).toInt from by first | exact om_662a1892167c xlp7_1 hz63 hz64 pq68 | first | omega | ((try (have i_t40 := Imp.go t40 (by omega))); (try (have i_t39 := Imp.go t39 (by omega))); (try (have i_rp4 := Imp.go rp4 (by omega))); (try (have i_rp4 := Imp.go rp4 (by omega))); (try (have i_t39 := Imp.go t39 (by omega))); (try (have i_t40 := Imp.go t40 (by omega))); omega)) (fun k h => by by_cases c : (k : Int) < y5.toInt; exact xlp7_2 k c; have ek : k = y5.toInt.toNat := (by first | omega | ((try (have i_t40 := Imp.go t40 (by omega))); (try (have i_t39 := Imp.go t39 (by omega))); (try (have i_rp4 := Imp.go rp4 (by omega))); (try (have i_rp4 := Imp.go rp4 (by omega))); (try (have i_t39 := Imp.go t39 (by omega))); (try (have i_t40 := Imp.go t40 (by omega))); omega)); rw [ek, ← er70]; exact hp72) (fun h9 => by rw [ez76, wv_s, ← xlp7_3 (by first | omega | ((try (have i_t40 := Imp.go t40 (by omega))); (try (have i_t39 := Imp.go t39 (by omega))); (try (have i_rp4 := Imp.go rp4 (by omega))); (try (have i_rp4 := Imp.go rp4 (by omega))); (try (have i_t39 := Imp.go t39 (by omega))); (try (have i_t40 := Imp.go t40 (by omega))); omega)), ← er74]; exact ew62.trans (by rw [ew56, ew61, t60]; rfl)) (by first | exact om_91b464413286 hn pq8 hz64 pq67 pq68 | first | omega | ((try (have i_t40 := Imp.go t40 (by omega))); (try (have i_t39 := Imp.go t39 (by omega))); (try (have i_rp4 := Imp.go rp4 (by omega))); (try (have i_rp4 := Imp.go rp4 (by omega))); (try (have i_t39 := Imp.go t39 (by omega))); (try (have i_t40 := Imp.go t40 (by omega))); omega)) (agr.up (agr.tr agr.rf ajV6 (by decide) (by decide)) hV65 rfl) hMV65 hP hD hS (lv_sub hl [1, 0, 2] rfl)
        · skip
          have f77 : z36.toInt = 0 := b_eq rfl (by decide) c41
          refine lv_aload_n hx hb dX9_cutWord_30 rfl (lv_at hl 2 rfl) ?_
          refine va_get (D := D) (ci := 9) (v := .ref (ad 7)) (fs := (xfTape ad V6 L Z)) (C := RX9) (T := TX9) (N := 12) hx hb hg inX9 hown hK hP 6 xgTape rfl 0 (by decide) (hg _ w252) (fun _ h9 => h9) rfl dX9_cutWord_31 ?_
          refine lv_aload_n hx hb dX9_cutWord_34 rfl (lv_at hl 2 rfl) ?_
          refine va_get (D := D) (ci := 9) (v := .int (V6 6 6)) (fs := (xfTape ad V6 L Z)) (C := RX9) (T := TX9) (N := 12) hx hb hg inX9 hown hK hP 6 xgTape rfl 6 (by decide) (hg _ w259) (fun _ h9 => h9) rfl dX9_cutWord_35 ?_
          refine va_bald (D := D) (i := (V6 6 6)) hx hb hK hP 7 0 rfl rfl (i_in (a := ((V6 6 6)).toInt) rfl (by first | exact om_ae1ad81edeff r1.2 r9.1 f35 | first | omega | ((try (have i_t40 := Imp.go t40 (by omega))); (try (have i_t39 := Imp.go t39 (by omega))); (try (have i_rp4 := Imp.go rp4 (by omega))); (try (have i_rp4 := Imp.go rp4 (by omega))); (try (have i_t39 := Imp.go t39 (by omega))); (try (have i_t40 := Imp.go t40 (by omega))); omega))) dX9_cutWord_38 ?_
          refine g_top (v := (V 10 (Int32.toNatClampNeg (V6 6 6)))) (ajV6 10 (Int32.toNatClampNeg (V6 6 6)) rfl) ?_
          refine gE_int (g_runS (As := [.int (V 10 (Int32.toNatClampNeg (V6 6 6)))]) (rest := []) (wc := []) (tc := []) hx hb hml hown hg gw_self hP hD hK hS hA hnw hgk [] [] (by decide) rfl rfl (x_isDigit2 l D ks H.size (V 10 (Int32.toNatClampNeg (V6 6 6))) ) w249 w250 w157 w251 hdS_yX9_isDigit ⟨Nat.le_of_ble_eq_true rfl, Nat.le_of_ble_eq_true rfl⟩ rfl hl.1 rfl (Nat.le_of_ble_eq_true rfl) dX9_cutWord_39 ⟨Nat.le_of_ble_eq_true rfl, Nat.le_of_ble_eq_true rfl⟩) hP hD hK hS hA (fun z78 u79 H locs w80 hP hD hK hS => ?_)
          obtain ⟨rgz78, t81, t82⟩ := w80
          have rgz78 : 0 ≤ z78.toInt ∧ z78.toInt ≤ 1 := rgz78
          have t81 : Imp (z78.toInt = 1) (48 ≤ ((V 10 (Int32.toNatClampNeg (V6 6 6)))).toInt ∧ ((V 10 (Int32.toNatClampNeg (V6 6 6)))).toInt ≤ 57) := t81
          have t82 : Imp (z78.toInt = 0) (((V 10 (Int32.toNatClampNeg (V6 6 6)))).toInt < 48 ∨ 57 < ((V 10 (Int32.toNatClampNeg (V6 6 6)))).toInt) := t82
          refine lv_if_eq (tgt := 91) hx hb dX9_cutWord_42 (by decide) (fun c83 => ?_) (fun c83 => ?_)
          · skip
            have f84 : z78.toInt = 0 := b_eq rfl (by decide) c83
            refine lv_aload_n hx hb dX9_cutWord_91 rfl (lv_at hl 2 rfl) ?_
            refine va_get (D := D) (ci := 9) (v := .ref (ad 9)) (fs := (xfTape ad V6 L Z)) (C := RX9) (T := TX9) (N := 12) hx hb hg inX9 hown hK hP 6 xgTape rfl 2 (by decide) (hg _ w254) (fun _ h9 => h9) rfl dX9_cutWord_92 ?_
            refine lv_aload_n hx hb dX9_cutWord_95 rfl (lv_at hl 2 rfl) ?_
            refine va_get (D := D) (ci := 9) (v := .int (V6 6 7)) (fs := (xfTape ad V6 L Z)) (C := RX9) (T := TX9) (N := 12) hx hb hg inX9 hown hK hP 6 xgTape rfl 7 (by decide) (hg _ w260) (fun _ h9 => h9) rfl dX9_cutWord_96 ?_
            refine g_top (v := (V 6 7)) (ajV6 6 7 rfl) ?_
            refine lv_iload_n hx hb dX9_cutWord_99 rfl (lv_at hl 1 rfl) ?_
            refine lv_bipush (v := 12) hx hb dX9_cutWord_100 (by decide) ?_
            refine lv_icmp_le (tgt := 109) hx hb dX9_cutWord_102 (by decide) (fun c85 => ?_) (fun c85 => ?_)
            · skip
              have f86 : y5.toInt ≤ 12 := b_le rfl (by decide) c85
              refine lv_aload_n hx hb dX9_cutWord_109 rfl (lv_at hl 2 rfl) ?_
              refine lv_lload_n hx hb dX9_cutWord_110 rfl (lv_at hl 0 rfl) ?_
              refine gA_int (gA_runV (As := [.long y4]) (rest := [.int (V 6 7), .ref (ad 9)]) (ci := 9) (q0 := 6) hx hb hml hown hg hP hD hK hS hA hnw hgk (x_kindOf2 l D ks H.size ad kk V6 L Z y4 hMV6 ) w787 w789 w3 w157 w790 rfl xgTape hdV_yX9_kindOf ⟨Nat.le_of_ble_eq_true rfl, Nat.le_of_ble_eq_true rfl⟩ rfl hl.1 rfl (Nat.le_of_ble_eq_true rfl) dX9_cutWord_111 ⟨Nat.le_of_ble_eq_true rfl, Nat.le_of_ble_eq_true rfl⟩) hP hD hK hS hA (fun z87 u88 H locs w89 hP hD hK hS => ?_)
              have t90 := w89
              have t90 : KW L y4 z87.toInt := t90
              refine va_iast (D := D) (i := (V 6 7)) (x := z87) hx hb hK hP hD hS 9 2 rfl rfl (i_in (a := ((V 6 7)).toInt) rfl (by first | exact om_1452076f4170 rp2 r3.1 | first | omega | ((try (have i_t82 := Imp.go t82 (f84))); (try (have i_t40 := Imp.go t40 (f77))); omega) | ((try (have i_t82 := Imp.go t82 (by omega))); (try (have i_t81 := Imp.go t81 (by omega))); (try (have i_t40 := Imp.go t40 (by omega))); (try (have i_t39 := Imp.go t39 (by omega))); first | omega | ((try (have i_rp4 := Imp.go rp4 (by omega))); (try (have i_rp4 := Imp.go rp4 (by omega))); (try (have i_t39 := Imp.go t39 (by omega))); (try (have i_t40 := Imp.go t40 (by omega))); (try (have i_t81 := Imp.go t81 (by omega))); (try (have i_t82 := Imp.go t82 (by omega))); omega)))) dX9_cutWord_114 (fun H locs hP hD hS => ?_)
              obtain ⟨V91, hV91⟩ : ∃ z, z = up2 V6 12 (Int32.toNatClampNeg (V 6 7)) z87 := ⟨_, rfl⟩
              have ew92 : (xw ad kk V6 L Z).set 9 ((ad 9), .inl ((kk 9), 4001, .inl (upd (V6 12) (Int32.toNatClampNeg (V 6 7)) z87))) = xw ad kk V91 L Z := by rw [hV91]; exact xw_ss (by decide) rfl (xb_si (by decide))
              have hP : va_P D vwCl (xw ad kk V91 L Z) H := by rw [← ew92]; exact hP
              have hD : va_D A (xw ad kk V91 L Z) := by rw [← ew92]; exact hD
              have hMV91 : rgd bX V91 := hMV6.put hV91 (i_full _)
              have agV91 : agr [(6, 6)] [12, 14] V V91 := agV6.up hV91 rfl
              refine lv_aload_n hx hb dX9_cutWord_115 rfl (lv_at hl 2 rfl) ?_
              refine va_get (D := D) (ci := 9) (v := .ref (ad 11)) (fs := (xfTape ad V91 L Z)) (C := RX9) (T := TX9) (N := 12) hx hb hg inX9 hown hK hP 6 xgTape rfl 4 (by decide) (hg _ w256) (fun _ h9 => h9) rfl dX9_cutWord_116 ?_
              refine lv_aload_n hx hb dX9_cutWord_119 rfl (lv_at hl 2 rfl) ?_
              refine va_get (D := D) (ci := 9) (v := .int (V91 6 7)) (fs := (xfTape ad V91 L Z)) (C := RX9) (T := TX9) (N := 12) hx hb hg inX9 hown hK hP 6 xgTape rfl 7 (by decide) (hg _ w260) (fun _ h9 => h9) rfl dX9_cutWord_120 ?_
              refine g_top (v := (V 6 7)) ((up2_o hV91 (by decide)).trans (ajV6 6 7 rfl)) ?_
              refine lv_lload_n hx hb dX9_cutWord_123 rfl (lv_at hl 0 rfl) ?_
              refine va_last (D := D) (i := (V 6 7)) (x := y4) hx hb hK hP hD hS 11 4 rfl rfl (i_in (a := ((V 6 7)).toInt) rfl (by first | exact om_1452076f4170 rp2 r3.1 | first | omega | ((try (have i_t82 := Imp.go t82 (f84))); (try (have i_t40 := Imp.go t40 (f77))); omega) | ((try (have i_t82 := Imp.go t82 (by omega))); (try (have i_t81 := Imp.go t81 (by omega))); (try (have i_t40 := Imp.go t40 (by omega))); (try (have i_t39 := Imp.go t39 (by omega))); first | omega | ((try (have i_rp4 := Imp.go rp4 (by omega))); (try (have i_rp4 := Imp.go rp4 (by omega))); (try (have i_t39 := Imp.go t39 (by omega))); (try (have i_t40 := Imp.go t40 (by omega))); (try (have i_t81 := Imp.go t81 (by omega))); (try (have i_t82 := Imp.go t82 (by omega))); omega)))) dX9_cutWord_124 (fun H locs hP hD hS => ?_)
              obtain ⟨L93, hL93⟩ : ∃ z, z = upL L 14 (Int32.toNatClampNeg (V 6 7)) y4 := ⟨_, rfl⟩
              have ew94 : (xw ad kk V91 L Z).set 11 ((ad 11), .inl ((kk 11), 4001, .inr (.inl (vp_updL (L 14) (Int32.toNatClampNeg (V 6 7)) y4)))) = xw ad kk V91 L93 Z := by rw [hL93]; exact xw_ss (by decide) rfl (fun j => xe_L (fun a => absurd a.1 (by decide)))
              have hP : va_P D vwCl (xw ad kk V91 L93 Z) H := by rw [← ew94]; exact hP
              have hD : va_D A (xw ad kk V91 L93 Z) := by rw [← ew94]; exact hD
              have alL93 : agL [14] L L93 := agL.up alL hL93 rfl
              have kz95 := i_clamp (x := (V6 6 6)) rfl (by first | exact om_fb56619e55db r2.1 klp7_0.1 xlp7_1 | first | omega | ((try (have i_t82 := Imp.go t82 (f84))); (try (have i_t40 := Imp.go t40 (f77))); omega) | ((try (have i_t82 := Imp.go t82 (by omega))); (try (have i_t81 := Imp.go t81 (by omega))); (try (have i_t40 := Imp.go t40 (by omega))); (try (have i_t39 := Imp.go t39 (by omega))); first | omega | ((try (have i_rp4 := Imp.go rp4 (by omega))); (try (have i_rp4 := Imp.go rp4 (by omega))); (try (have i_t39 := Imp.go t39 (by omega))); (try (have i_t40 := Imp.go t40 (by omega))); (try (have i_t81 := Imp.go t81 (by omega))); (try (have i_t82 := Imp.go t82 (by omega))); omega)))
              have ek97 : Int32.toNatClampNeg (V6 6 6) = gs + y5.toInt.toNat := by first | exact om_a24691f97300 rp3 klp7_0.1 xlp7_1 kz95 | first | omega | ((try (have i_t82 := Imp.go t82 (f84))); (try (have i_t40 := Imp.go t40 (f77))); omega) | ((try (have i_t82 := Imp.go t82 (by omega))); (try (have i_t81 := Imp.go t81 (by omega))); (try (have i_t40 := Imp.go t40 (by omega))); (try (have i_t39 := Imp.go t39 (by omega))); first | omega | ((try (have i_rp4 := Imp.go rp4 (by omega))); (try (have i_rp4 := Imp.go rp4 (by omega))); (try (have i_t39 := Imp.go t39 (by omega))); (try (have i_t40 := Imp.go t40 (by omega))); (try (have i_t81 := Imp.go t81 (by omega))); (try (have i_t82 := Imp.go t82 (by omega))); omega))
              have er96 : (V 10 (Int32.toNatClampNeg (V6 6 6))) = V 10 (gs + y5.toInt.toNat) := by rw [ek97]
              have nd98 : ¬ isLD (V 10 (gs + y5.toInt.toNat)) := by rw [← er96]; exact (fun q => q.elim (fun z => by have y := Imp.go t40 (by (first | exact om_b1799fcf2d63 rgz36.1 f77 | omega)); have z1 := z.1; have z2 := z.2; omega) (fun z => by have y := Imp.go t82 (by (first | exact om_b1799fcf2d63 rgz78.1 f84 | omega)); have z1 := z.1; have z2 := z.2; omega))
              have hl0 : 0 < y5.toInt.toNat := Nat.pos_of_ne_zero (fun h0 => nd98 (by rw [h0]; exact Or.inl rp4))
              have hrun : RUN isLD (V 10) (V 6 5).toInt.toNat gs (gs + y5.toInt.toNat) := ⟨by omega, by first | omega | ((try (have i_t82 := Imp.go t82 (f84))); (try (have i_t40 := Imp.go t40 (f77))); omega) | ((try (have i_t82 := Imp.go t82 (by omega))); (try (have i_t81 := Imp.go t81 (by omega))); (try (have i_t40 := Imp.go t40 (by omega))); (try (have i_t39 := Imp.go t39 (by omega))); first | omega | ((try (have i_rp4 := Imp.go rp4 (by omega))); (try (have i_rp4 := Imp.go rp4 (by omega))); (try (have i_t39 := Imp.go t39 (by omega))); (try (have i_t40 := Imp.go t40 (by omega))); (try (have i_t81 := Imp.go t81 (by omega))); (try (have i_t82 := Imp.go t82 (by omega))); omega)), fun k a b => by have z := xlp7_2 (k - gs) (by omega); rw [show gs + (k - gs) = k from by omega] at z; exact z, Or.inr nd98⟩
              have hsub : gs + y5.toInt.toNat - gs = y5.toInt.toNat := Nat.add_sub_cancel_left _ _
              have pq99 : (V91 6 6).toInt = ((V6 6 6)).toInt := congrArg Int32.toInt (up2_o hV91 (by decide))
              have ek100 : V91 12 (Int32.toNatClampNeg (V 6 7)) = z87 := (up2_s hV91)
              have hL14 : L93 14 (Int32.toNatClampNeg (V 6 7)) = y4 := by rw [hL93]; unfold upL vp_updL; rw [if_pos rfl, if_pos rfl]
              have rp101 : ∃ e : Nat, RUN isLD (V 10) (V 6 5).toInt.toNat gs e ∧ (V91 6 6).toInt = (e : Int) ∧ (12 < e - gs → (V91 12 (Int32.toNatClampNeg (V 6 7))).toInt = 1) ∧ (e - gs ≤ 12 → KW L (wv (V 10) gs (e - gs)) (V91 12 (Int32.toNatClampNeg (V 6 7))).toInt ∧ L93 14 (Int32.toNatClampNeg (V 6 7)) = wv (V 10) gs (e - gs)) := ⟨_, hrun, by first | omega | ((try (have i_t82 := Imp.go t82 (f84))); (try (have i_t40 := Imp.go t40 (f77))); omega) | ((try (have i_t82 := Imp.go t82 (by omega))); (try (have i_t81 := Imp.go t81 (by omega))); (try (have i_t40 := Imp.go t40 (by omega))); (try (have i_t39 := Imp.go t39 (by omega))); first | omega | ((try (have i_rp4 := Imp.go rp4 (by omega))); (try (have i_rp4 := Imp.go rp4 (by omega))); (try (have i_t39 := Imp.go t39 (by omega))); (try (have i_t40 := Imp.go t40 (by omega))); (try (have i_t81 := Imp.go t81 (by omega))); (try (have i_t82 := Imp.go t82 (by omega))); omega)), fun h => by rw [hsub] at h; rw [ek100]; exfalso; omega, fun h => by rw [hsub] at h ⊢; exact ⟨(by rw [ek100]; rw [← xlp7_3 (by first | omega | ((try (have i_t82 := Imp.go t82 (f84))); (try (have i_t40 := Imp.go t40 (f77))); omega) | ((try (have i_t82 := Imp.go t82 (by omega))); (try (have i_t81 := Imp.go t81 (by omega))); (try (have i_t40 := Imp.go t40 (by omega))); (try (have i_t39 := Imp.go t39 (by omega))); first | omega | ((try (have i_rp4 := Imp.go rp4 (by omega))); (try (have i_rp4 := Imp.go rp4 (by omega))); (try (have i_t39 := Imp.go t39 (by omega))); (try (have i_t40 := Imp.go t40 (by omega))); (try (have i_t81 := Imp.go t81 (by omega))); (try (have i_t82 := Imp.go t82 (by omega))); omega)))]; exact t90), by rw [hL14]; exact xlp7_3 (by first | omega | ((try (have i_t82 := Imp.go t82 (f84))); (try (have i_t40 := Imp.go t40 (f77))); omega) | ((try (have i_t82 := Imp.go t82 (by omega))); (try (have i_t81 := Imp.go t81 (by omega))); (try (have i_t40 := Imp.go t40 (by omega))); (try (have i_t39 := Imp.go t39 (by omega))); first | omega | ((try (have i_rp4 := Imp.go rp4 (by omega))); (try (have i_rp4 := Imp.go rp4 (by omega))); (try (have i_t39 := Imp.go t39 (by omega))); (try (have i_t40 := Imp.go t40 (by omega))); (try (have i_t81 := Imp.go t81 (by omega))); (try (have i_t82 := Imp.go t82 (by omega))); omega)))⟩⟩
              have hF12 : V91 12 = upd (V 12) (Int32.toNatClampNeg (V 6 7)) z87 := by rw [up2_fn hV91, show V6 12 = V 12 from funext (fun q => ajV6 12 q rfl)]
              have rp102 : ∀ k : Nat, k ≠ (Int32.toNatClampNeg (V 6 7)) → V91 12 k = V 12 k ∧ L93 14 k = L 14 k := fun k hk => ⟨by rw [hF12]; exact if_neg hk, by rw [hL93]; unfold upL vp_updL; rw [if_pos rfl, if_neg hk]⟩
              exact W.vret hx hb hr (fun t ht hW => ⟨⟨(V91, L93), rfl, ⟨hMV91, agV91, alL93, rp101, rp102⟩, by rw [ht]; exact hP, va_K.moved hW.alike hK, hD⟩, hS.F ht⟩) hS.2.2 dX9_cutWord_125
            · skip
              have f103 : 12 < y5.toInt := b_nle rfl (by decide) c85
              refine lv_iconst (v := 1) hx hb dX9_cutWord_105 (by decide) ?_
              refine lv_goto (tgt := 114) hx hb dX9_cutWord_106 (by decide) ?_
              refine va_iast (D := D) (i := (V 6 7)) (x := 1) hx hb hK hP hD hS 9 2 rfl rfl (i_in (a := ((V 6 7)).toInt) rfl (by first | exact om_1452076f4170 rp2 r3.1 | first | omega | ((try (have i_t82 := Imp.go t82 (f84))); (try (have i_t40 := Imp.go t40 (f77))); omega) | ((try (have i_t82 := Imp.go t82 (by omega))); (try (have i_t81 := Imp.go t81 (by omega))); (try (have i_t40 := Imp.go t40 (by omega))); (try (have i_t39 := Imp.go t39 (by omega))); first | omega | ((try (have i_rp4 := Imp.go rp4 (by omega))); (try (have i_rp4 := Imp.go rp4 (by omega))); (try (have i_t39 := Imp.go t39 (by omega))); (try (have i_t40 := Imp.go t40 (by omega))); (try (have i_t81 := Imp.go t81 (by omega))); (try (have i_t82 := Imp.go t82 (by omega))); omega)))) dX9_cutWord_114 (fun H locs hP hD hS => ?_)
              obtain ⟨V104, hV104⟩ : ∃ z, z = up2 V6 12 (Int32.toNatClampNeg (V 6 7)) 1 := ⟨_, rfl⟩
              have ew105 : (xw ad kk V6 L Z).set 9 ((ad 9), .inl ((kk 9), 4001, .inl (upd (V6 12) (Int32.toNatClampNeg (V 6 7)) 1))) = xw ad kk V104 L Z := by rw [hV104]; exact xw_ss (by decide) rfl (xb_si (by decide))
              have hP : va_P D vwCl (xw ad kk V104 L Z) H := by rw [← ew105]; exact hP
              have hD : va_D A (xw ad kk V104 L Z) := by rw [← ew105]; exact hD
              have hMV104 : rgd bX V104 := hMV6.put hV104 (i_full _)
              have agV104 : agr [(6, 6)] [12, 14] V V104 := agV6.up hV104 rfl
              refine lv_aload_n hx hb dX9_cutWord_115 rfl (lv_at hl 2 rfl) ?_
              refine va_get (D := D) (ci := 9) (v := .ref (ad 11)) (fs := (xfTape ad V104 L Z)) (C := RX9) (T := TX9) (N := 12) hx hb hg inX9 hown hK hP 6 xgTape rfl 4 (by decide) (hg _ w256) (fun _ h9 => h9) rfl dX9_cutWord_116 ?_
              refine lv_aload_n hx hb dX9_cutWord_119 rfl (lv_at hl 2 rfl) ?_
              refine va_get (D := D) (ci := 9) (v := .int (V104 6 7)) (fs := (xfTape ad V104 L Z)) (C := RX9) (T := TX9) (N := 12) hx hb hg inX9 hown hK hP 6 xgTape rfl 7 (by decide) (hg _ w260) (fun _ h9 => h9) rfl dX9_cutWord_120 ?_
              refine g_top (v := (V 6 7)) ((up2_o hV104 (by decide)).trans (ajV6 6 7 rfl)) ?_
              refine lv_lload_n hx hb dX9_cutWord_123 rfl (lv_at hl 0 rfl) ?_
              refine va_last (D := D) (i := (V 6 7)) (x := y4) hx hb hK hP hD hS 11 4 rfl rfl (i_in (a := ((V 6 7)).toInt) rfl (by first | exact om_1452076f4170 rp2 r3.1 | first | omega | ((try (have i_t82 := Imp.go t82 (f84))); (try (have i_t40 := Imp.go t40 (f77))); omega) | ((try (have i_t82 := Imp.go t82 (by omega))); (try (have i_t81 := Imp.go t81 (by omega))); (try (have i_t40 := Imp.go t40 (by omega))); (try (have i_t39 := Imp.go t39 (by omega))); first | omega | ((try (have i_rp4 := Imp.go rp4 (by omega))); (try (have i_rp4 := Imp.go rp4 (by omega))); (try (have i_t39 := Imp.go t39 (by omega))); (try (have i_t40 := Imp.go t40 (by omega))); (try (have i_t81 := Imp.go t81 (by omega))); (try (have i_t82 := Imp.go t82 (by omega))); omega)))) dX9_cutWord_124 (fun H locs hP hD hS => ?_)
              obtain ⟨L106, hL106⟩ : ∃ z, z = upL L 14 (Int32.toNatClampNeg (V 6 7)) y4 := ⟨_, rfl⟩
              have ew107 : (xw ad kk V104 L Z).set 11 ((ad 11), .inl ((kk 11), 4001, .inr (.inl (vp_updL (L 14) (Int32.toNatClampNeg (V 6 7)) y4)))) = xw ad kk V104 L106 Z := by rw [hL106]; exact xw_ss (by decide) rfl (fun j => xe_L (fun a => absurd a.1 (by decide)))
              have hP : va_P D vwCl (xw ad kk V104 L106 Z) H := by rw [← ew107]; exact hP
              have hD : va_D A (xw ad kk V104 L106 Z) := by rw [← ew107]; exact hD
              have alL106 : agL [14] L L106 := agL.up alL hL106 rfl
              have kz108 := i_clamp (x := (V6 6 6)) rfl (by first | exact om_8b6d7bd4811d r2.1 xlp7_1 f103 | first | omega | ((try (have i_t82 := Imp.go t82 (f84))); (try (have i_t40 := Imp.go t40 (f77))); omega) | ((try (have i_t82 := Imp.go t82 (by omega))); (try (have i_t81 := Imp.go t81 (by omega))); (try (have i_t40 := Imp.go t40 (by omega))); (try (have i_t39 := Imp.go t39 (by omega))); first | omega | ((try (have i_rp4 := Imp.go rp4 (by omega))); (try (have i_rp4 := Imp.go rp4 (by omega))); (try (have i_t39 := Imp.go t39 (by omega))); (try (have i_t40 := Imp.go t40 (by omega))); (try (have i_t81 := Imp.go t81 (by omega))); (try (have i_t82 := Imp.go t82 (by omega))); omega)))
              have ek110 : Int32.toNatClampNeg (V6 6 6) = gs + y5.toInt.toNat := by first | exact om_842861941213 rp3 xlp7_1 f103 kz108 | first | omega | ((try (have i_t82 := Imp.go t82 (f84))); (try (have i_t40 := Imp.go t40 (f77))); omega) | ((try (have i_t82 := Imp.go t82 (by omega))); (try (have i_t81 := Imp.go t81 (by omega))); (try (have i_t40 := Imp.go t40 (by omega))); (try (have i_t39 := Imp.go t39 (by omega))); first | omega | ((try (have i_rp4 := Imp.go rp4 (by omega))); (try (have i_rp4 := Imp.go rp4 (by omega))); (try (have i_t39 := Imp.go t39 (by omega))); (try (have i_t40 := Imp.go t40 (by omega))); (try (have i_t81 := Imp.go t81 (by omega))); (try (have i_t82 := Imp.go t82 (by omega))); omega))
              have er109 : (V 10 (Int32.toNatClampNeg (V6 6 6))) = V 10 (gs + y5.toInt.toNat) := by rw [ek110]
              have nd111 : ¬ isLD (V 10 (gs + y5.toInt.toNat)) := by rw [← er109]; exact (fun q => q.elim (fun z => by have y := Imp.go t40 (by (first | exact om_b1799fcf2d63 rgz36.1 f77 | omega)); have z1 := z.1; have z2 := z.2; omega) (fun z => by have y := Imp.go t82 (by (first | exact om_b1799fcf2d63 rgz78.1 f84 | omega)); have z1 := z.1; have z2 := z.2; omega))
              have hl0 : 0 < y5.toInt.toNat := Nat.pos_of_ne_zero (fun h0 => nd111 (by rw [h0]; exact Or.inl rp4))
              have hrun : RUN isLD (V 10) (V 6 5).toInt.toNat gs (gs + y5.toInt.toNat) := ⟨by omega, by first | omega | ((try (have i_t82 := Imp.go t82 (f84))); (try (have i_t40 := Imp.go t40 (f77))); omega) | ((try (have i_t82 := Imp.go t82 (by omega))); (try (have i_t81 := Imp.go t81 (by omega))); (try (have i_t40 := Imp.go t40 (by omega))); (try (have i_t39 := Imp.go t39 (by omega))); first | omega | ((try (have i_rp4 := Imp.go rp4 (by omega))); (try (have i_rp4 := Imp.go rp4 (by omega))); (try (have i_t39 := Imp.go t39 (by omega))); (try (have i_t40 := Imp.go t40 (by omega))); (try (have i_t81 := Imp.go t81 (by omega))); (try (have i_t82 := Imp.go t82 (by omega))); omega)), fun k a b => by have z := xlp7_2 (k - gs) (by omega); rw [show gs + (k - gs) = k from by omega] at z; exact z, Or.inr nd111⟩
              have hsub : gs + y5.toInt.toNat - gs = y5.toInt.toNat := Nat.add_sub_cancel_left _ _
              have pq112 : (V104 6 6).toInt = ((V6 6 6)).toInt := congrArg Int32.toInt (up2_o hV104 (by decide))
              have ek113 : V104 12 (Int32.toNatClampNeg (V 6 7)) = 1 := (up2_s hV104)
              have hL14 : L106 14 (Int32.toNatClampNeg (V 6 7)) = y4 := by rw [hL106]; unfold upL vp_updL; rw [if_pos rfl, if_pos rfl]
              have rp114 : ∃ e : Nat, RUN isLD (V 10) (V 6 5).toInt.toNat gs e ∧ (V104 6 6).toInt = (e : Int) ∧ (12 < e - gs → (V104 12 (Int32.toNatClampNeg (V 6 7))).toInt = 1) ∧ (e - gs ≤ 12 → KW L (wv (V 10) gs (e - gs)) (V104 12 (Int32.toNatClampNeg (V 6 7))).toInt ∧ L106 14 (Int32.toNatClampNeg (V 6 7)) = wv (V 10) gs (e - gs)) := ⟨_, hrun, by first | omega | ((try (have i_t82 := Imp.go t82 (f84))); (try (have i_t40 := Imp.go t40 (f77))); omega) | ((try (have i_t82 := Imp.go t82 (by omega))); (try (have i_t81 := Imp.go t81 (by omega))); (try (have i_t40 := Imp.go t40 (by omega))); (try (have i_t39 := Imp.go t39 (by omega))); first | omega | ((try (have i_rp4 := Imp.go rp4 (by omega))); (try (have i_rp4 := Imp.go rp4 (by omega))); (try (have i_t39 := Imp.go t39 (by omega))); (try (have i_t40 := Imp.go t40 (by omega))); (try (have i_t81 := Imp.go t81 (by omega))); (try (have i_t82 := Imp.go t82 (by omega))); omega)), fun h => by rw [hsub] at h; rw [ek113]; decide, fun h => by rw [hsub] at h ⊢; exact ⟨(by rw [ek113]; exfalso; omega), by rw [hL14]; exact xlp7_3 (by first | omega | ((try (have i_t82 := Imp.go t82 (f84))); (try (have i_t40 := Imp.go t40 (f77))); omega) | ((try (have i_t82 := Imp.go t82 (by omega))); (try (have i_t81 := Imp.go t81 (by omega))); (try (have i_t40 := Imp.go t40 (by omega))); (try (have i_t39 := Imp.go t39 (by omega))); first | omega | ((try (have i_rp4 := Imp.go rp4 (by omega))); (try (have i_rp4 := Imp.go rp4 (by omega))); (try (have i_t39 := Imp.go t39 (by omega))); (try (have i_t40 := Imp.go t40 (by omega))); (try (have i_t81 := Imp.go t81 (by omega))); (try (have i_t82 := Imp.go t82 (by omega))); omega)))⟩⟩
              have hF12 : V104 12 = upd (V 12) (Int32.toNatClampNeg (V 6 7)) 1 := by rw [up2_fn hV104, show V6 12 = V 12 from funext (fun q => ajV6 12 q rfl)]
              have rp115 : ∀ k : Nat, k ≠ (Int32.toNatClampNeg (V 6 7)) → V104 12 k = V 12 k ∧ L106 14 k = L 14 k := fun k hk => ⟨by rw [hF12]; exact if_neg hk, by rw [hL106]; unfold upL vp_updL; rw [if_pos rfl, if_neg hk]⟩
              exact W.vret hx hb hr (fun t ht hW => ⟨⟨(V104, L106), rfl, ⟨hMV104, agV104, alL106, rp114, rp115⟩, by rw [ht]; exact hP, va_K.moved hW.alike hK, hD⟩, hS.F ht⟩) hS.2.2 dX9_cutWord_125
          · skip
            have f116 : z78.toInt ≠ 0 := b_neq rfl (by decide) c83
            refine lv_iload_n hx hb dX9_cutWord_45 rfl (lv_at hl 1 rfl) ?_
            refine lv_bipush (v := 12) hx hb dX9_cutWord_46 (by decide) ?_
            refine lv_icmp_ge (tgt := 73) hx hb dX9_cutWord_48 (by decide) (fun c117 => ?_) (fun c117 => ?_)
            · skip
              have f118 : 12 ≤ y5.toInt := b_le (by decide) rfl c117
              refine lv_lconst (v := 0) hx hb dX9_cutWord_73 (by decide) ?_
              refine lv_lstore_n (lv' := [(2, .long 0), (1, .int y5), (0, .ref (ad 6))]) hx hb dX9_cutWord_74 rfl hl (by decide) rfl (fun ls hl => ?_)
              obtain ⟨z119, ez119⟩ : ∃ y : Int32, y = y5 + 1 := ⟨_, rfl⟩
              have hz119 : z119.toInt = y5.toInt + 1 := i_add ez119 rfl (by decide) (by (first | exact om_89fadfb637be r1.2 r2.1 xlp7_1 f35 f118 | omega))
              refine lv_iinc (v := z119) (lv' := [(1, .int z119), (2, .long 0), (0, .ref (ad 6))]) hx hb dX9_cutWord_75 hl (k := 1) rfl (by rw [ez119]; rfl) (by decide) rfl (fun ls hl => ?_)
              refine lv_aload_n hx hb dX9_cutWord_78 rfl (lv_at hl 2 rfl) ?_
              refine lv_dup hx hb dX9_cutWord_79 rfl ?_
              refine va_get (D := D) (ci := 9) (v := .int (V6 6 6)) (fs := (xfTape ad V6 L Z)) (C := RX9) (T := TX9) (N := 12) hx hb hg inX9 hown hK hP 6 xgTape rfl 6 (by decide) (hg _ w259) (fun _ h9 => h9) rfl dX9_cutWord_80 ?_
              refine lv_iconst (v := 1) hx hb dX9_cutWord_83 (by decide) ?_
              refine lv_iadd hx hb dX9_cutWord_84 ?_
              refine lv_topi (fun z120 ez120 => ?_)
              have hz120 : z120.toInt = ((V6 6 6)).toInt + 1 := i_add ez120 rfl (by decide) (by (first | exact om_5c2f98f06f05 r1.2 r2.1 xlp7_1 f35 f118 | omega))
              refine va_put (D := D) (ci := 9) (v := .int z120) (ty := tyX9 6) (fs := (xfTape ad V6 L Z)) (C := RX9) (T := TX9) (N := 12) hx hb hg inX9 tyX9 tyX9_ok nmX9 hown hK hP hD hS 6 xgTape rfl 6 (by decide) (hg _ w259) (fun _ h9 => h9) rfl (tyX9_ok 6 (by decide)) rfl rfl (Nat.le_of_ble_eq_true rfl) dX9_cutWord_85 (fun H locs hP hD hS => ?_)
              obtain ⟨V121, hV121⟩ : ∃ z, z = up2 V6 6 6 z120 := ⟨_, rfl⟩
              have ew122 : (xw ad kk V6 L Z).set 6 ((ad 6), .inr (9, (xfTape ad V6 L Z).set 6 (.int z120))) = xw ad kk V121 L Z := by rw [hV121]; exact xw_ss (by decide) rfl (xb_si (by decide))
              have hP : va_P D vwCl (xw ad kk V121 L Z) H := by rw [← ew122]; exact hP
              have hD : va_D A (xw ad kk V121 L Z) := by rw [← ew122]; exact hD
              have hMV121 : rgd bX V121 := hMV6.put hV121 (show 0 ≤ z120.toInt ∧ z120.toInt ≤ 4000 from by first | exact om_a97166e33c63 r1.2 r2.1 xlp7_1 f35 f118 hz120 | first | omega | ((try (have i_t81 := Imp.go t81 (imp_a (rgz78.1) (rgz78.2) (f116)))); (try (have i_t40 := Imp.go t40 (f77))); omega) | ((try (have i_t82 := Imp.go t82 (by omega))); (try (have i_t81 := Imp.go t81 (by omega))); (try (have i_t40 := Imp.go t40 (by omega))); (try (have i_t39 := Imp.go t39 (by omega))); first | omega | ((try (have i_rp4 := Imp.go rp4 (by omega))); (try (have i_rp4 := Imp.go rp4 (by omega))); (try (have i_t39 := Imp.go t39 (by omega))); (try (have i_t40 := Imp.go t40 (by omega))); (try (have i_t81 := Imp.go t81 (by omega))); (try (have i_t82 := Imp.go t82 (by omega))); omega)))
              have agV121 : agr [(6, 6)] [12, 14] V V121 := agV6.up hV121 rfl
              refine lv_goto (tgt := 4) hx hb dX9_cutWord_88 (by decide) ?_
              have pq123 : (V121 6 5).toInt = ((V 6 5)).toInt := congrArg Int32.toInt ((up2_k hV121 (by decide)).trans (ajV6 6 5 rfl))
              have pq124 : (V121 6 6).toInt = z120.toInt := congrArg Int32.toInt (up2_s hV121)
              have kz125 := i_clamp (x := (V6 6 6)) rfl (by first | exact om_d873b6e6eff2 r2.1 xlp7_1 f118 | first | omega | ((try (have i_t81 := Imp.go t81 (imp_a (rgz78.1) (rgz78.2) (f116)))); (try (have i_t40 := Imp.go t40 (f77))); omega) | ((try (have i_t82 := Imp.go t82 (by omega))); (try (have i_t81 := Imp.go t81 (by omega))); (try (have i_t40 := Imp.go t40 (by omega))); (try (have i_t39 := Imp.go t39 (by omega))); first | omega | ((try (have i_rp4 := Imp.go rp4 (by omega))); (try (have i_rp4 := Imp.go rp4 (by omega))); (try (have i_t39 := Imp.go t39 (by omega))); (try (have i_t40 := Imp.go t40 (by omega))); (try (have i_t81 := Imp.go t81 (by omega))); (try (have i_t82 := Imp.go t82 (by omega))); omega)))
              have ek127 : Int32.toNatClampNeg (V6 6 6) = gs + y5.toInt.toNat := by first | exact om_bc36fdf4844e rp3 xlp7_1 f118 kz125 | first | omega | ((try (have i_t81 := Imp.go t81 (imp_a (rgz78.1) (rgz78.2) (f116)))); (try (have i_t40 := Imp.go t40 (f77))); omega) | ((try (have i_t82 := Imp.go t82 (by omega))); (try (have i_t81 := Imp.go t81 (by omega))); (try (have i_t40 := Imp.go t40 (by omega))); (try (have i_t39 := Imp.go t39 (by omega))); first | omega | ((try (have i_rp4 := Imp.go rp4 (by omega))); (try (have i_rp4 := Imp.go rp4 (by omega))); (try (have i_t39 := Imp.go t39 (by omega))); (try (have i_t40 := Imp.go t40 (by omega))); (try (have i_t81 := Imp.go t81 (by omega))); (try (have i_t82 := Imp.go t82 (by omega))); omega))
              have er126 : (V 10 (Int32.toNatClampNeg (V6 6 6))) = V 10 (gs + y5.toInt.toNat) := by rw [ek127]
              have hp128 : isLD (V 10 (Int32.toNatClampNeg (V6 6 6))) := Or.inr (Imp.go t81 (by (first | exact om_2ebe32d50835 rgz78.1 rgz78.2 f116 | omega)))
              exact ihlp7 0 z119 V121 H locs ls (by first | exact om_42da437a9ba1 rp3 r1.2 xlp7_1 f35 f118 hz119 | first | omega | ((try (have i_t81 := Imp.go t81 (imp_a (rgz78.1) (rgz78.2) (f116)))); (try (have i_t40 := Imp.go t40 (f77))); omega) | ((try (have i_t82 := Imp.go t82 (by omega))); (try (have i_t81 := Imp.go t81 (by omega))); (try (have i_t40 := Imp.go t40 (by omega))); (try (have i_t39 := Imp.go t39 (by omega))); first | omega | ((try (have i_rp4 := Imp.go rp4 (by omega))); (try (have i_rp4 := Imp.go rp4 (by omega))); (try (have i_t39 := Imp.go t39 (by omega))); (try (have i_t40 := Imp.go t40 (by omega))); (try (have i_t81 := Imp.go t81 (by omega))); (try (have i_t82 := Imp.go t82 (by omega))); omega))) (show (V121 6 6).toInt ≤ (V121 6 5).toInt from by first | exact om_1257dc0753d6 f35 hz120 pq123 pq124 | first | omega | ((try (have i_t81 := Imp.go t81 (imp_a (rgz78.1) (rgz78.2) (f116)))); (try (have i_t40 := Imp.go t40 (f77))); omega) | ((try (have i_t82 := Imp.go t82 (by omega))); (try (have i_t81 := Imp.go t81 (by omega))); (try (have i_t40 := Imp.go t40 (by omega))); (try (have i_t39 := Imp.go t39 (by omega))); first | omega | ((try (have i_rp4 := Imp.go rp4 (by omega))); (try (have i_rp4 := Imp.go rp4 (by omega))); (try (have i_t39 := Imp.go t39 (by omega))); (try (have i_t40 := Imp.go t40 (by omega))); (try (have i_t81 := Imp.go t81 (by omega))); (try (have i_t82 := Imp.go t82 (by omega))); omega))) (show (V 6 6).toInt + z119.toInt = (V121 6 6).toInt from by first | exact om_662a1892167c xlp7_1 hz119 hz120 pq124 | first | omega | ((try (have i_t81 := Imp.go t81 (imp_a (rgz78.1) (rgz78.2) (f116)))); (try (have i_t40 := Imp.go t40 (f77))); omega) | ((try (have i_t82 := Imp.go t82 (by omega))); (try (have i_t81 := Imp.go t81 (by omega))); (try (have i_t40 := Imp.go t40 (by omega))); (try (have i_t39 := Imp.go t39 (by omega))); first | omega | ((try (have i_rp4 := Imp.go rp4 (by omega))); (try (have i_rp4 := Imp.go rp4 (by omega))); (try (have i_t39 := Imp.go t39 (by omega))); (try (have i_t40 := Imp.go t40 (by omega))); (try (have i_t81 := Imp.go t81 (by omega))); (try (have i_t82 := Imp.go t82 (by omega))); omega))) (fun k h => by by_cases c : (k : Int) < y5.toInt; exact xlp7_2 k c; have ek : k = y5.toInt.toNat := (by first | omega | ((try (have i_t81 := Imp.go t81 (imp_a (rgz78.1) (rgz78.2) (f116)))); (try (have i_t40 := Imp.go t40 (f77))); omega) | ((try (have i_t82 := Imp.go t82 (by omega))); (try (have i_t81 := Imp.go t81 (by omega))); (try (have i_t40 := Imp.go t40 (by omega))); (try (have i_t39 := Imp.go t39 (by omega))); first | omega | ((try (have i_rp4 := Imp.go rp4 (by omega))); (try (have i_rp4 := Imp.go rp4 (by omega))); (try (have i_t39 := Imp.go t39 (by omega))); (try (have i_t40 := Imp.go t40 (by omega))); (try (have i_t81 := Imp.go t81 (by omega))); (try (have i_t82 := Imp.go t82 (by omega))); omega))); rw [ek, ← er126]; exact hp128) (fun h => absurd h (by first | omega | ((try (have i_t81 := Imp.go t81 (imp_a (rgz78.1) (rgz78.2) (f116)))); (try (have i_t40 := Imp.go t40 (f77))); omega) | ((try (have i_t82 := Imp.go t82 (by omega))); (try (have i_t81 := Imp.go t81 (by omega))); (try (have i_t40 := Imp.go t40 (by omega))); (try (have i_t39 := Imp.go t39 (by omega))); first | omega | ((try (have i_rp4 := Imp.go rp4 (by omega))); (try (have i_rp4 := Imp.go rp4 (by omega))); (try (have i_t39 := Imp.go t39 (by omega))); (try (have i_t40 := Imp.go t40 (by omega))); (try (have i_t81 := Imp.go t81 (by omega))); (try (have i_t82 := Imp.go t82 (by omega))); omega)))) (by first | exact om_91b464413286 hn pq8 hz120 pq123 pq124 | first | omega | ((try (have i_t81 := Imp.go t81 (imp_a (rgz78.1) (rgz78.2) (f116)))); (try (have i_t40 := Imp.go t40 (f77))); omega) | ((try (have i_t82 := Imp.go t82 (by omega))); (try (have i_t81 := Imp.go t81 (by omega))); (try (have i_t40 := Imp.go t40 (by omega))); (try (have i_t39 := Imp.go t39 (by omega))); first | omega | ((try (have i_rp4 := Imp.go rp4 (by omega))); (try (have i_rp4 := Imp.go rp4 (by omega))); (try (have i_t39 := Imp.go t39 (by omega))); (try (have i_t40 := Imp.go t40 (by omega))); (try (have i_t81 := Imp.go t81 (by omega))); (try (have i_t82 := Imp.go t82 (by omega))); omega))) (agr.up (agr.tr agr.rf ajV6 (by decide) (by decide)) hV121 rfl) hMV121 hP hD hS (lv_sub hl [1, 0, 2] rfl)
            · skip
              have f129 : y5.toInt < 12 := b_nle (by decide) rfl c117
              refine lv_lload_n hx hb dX9_cutWord_51 rfl (lv_at hl 0 rfl) ?_
              refine lv_ldc2 (v := 37) hx hb hown (hg _ w245) dX9_cutWord_52 ?_
              refine lv_lmul hx hb dX9_cutWord_55 ?_
              refine lv_topl (fun w130 ew130 => ?_)
              refine lv_aload_n hx hb dX9_cutWord_56 rfl (lv_at hl 2 rfl) ?_
              refine va_get (D := D) (ci := 9) (v := .ref (ad 7)) (fs := (xfTape ad V6 L Z)) (C := RX9) (T := TX9) (N := 12) hx hb hg inX9 hown hK hP 6 xgTape rfl 0 (by decide) (hg _ w252) (fun _ h9 => h9) rfl dX9_cutWord_57 ?_
              refine lv_aload_n hx hb dX9_cutWord_60 rfl (lv_at hl 2 rfl) ?_
              refine va_get (D := D) (ci := 9) (v := .int (V6 6 6)) (fs := (xfTape ad V6 L Z)) (C := RX9) (T := TX9) (N := 12) hx hb hg inX9 hown hK hP 6 xgTape rfl 6 (by decide) (hg _ w259) (fun _ h9 => h9) rfl dX9_cutWord_61 ?_
              refine va_bald (D := D) (i := (V6 6 6)) hx hb hK hP 7 0 rfl rfl (i_in (a := ((V6 6 6)).toInt) rfl (by first | exact om_fe2d53c3c384 r1.2 r2.1 klp7_0.1 xlp7_1 f35 | first | omega | ((try (have i_t81 := Imp.go t81 (imp_a (rgz78.1) (rgz78.2) (f116)))); (try (have i_t40 := Imp.go t40 (f77))); omega) | ((try (have i_t82 := Imp.go t82 (by omega))); (try (have i_t81 := Imp.go t81 (by omega))); (try (have i_t40 := Imp.go t40 (by omega))); (try (have i_t39 := Imp.go t39 (by omega))); first | omega | ((try (have i_rp4 := Imp.go rp4 (by omega))); (try (have i_rp4 := Imp.go rp4 (by omega))); (try (have i_t39 := Imp.go t39 (by omega))); (try (have i_t40 := Imp.go t40 (by omega))); (try (have i_t81 := Imp.go t81 (by omega))); (try (have i_t82 := Imp.go t82 (by omega))); omega)))) dX9_cutWord_64 ?_
              refine g_top (v := (V 10 (Int32.toNatClampNeg (V6 6 6)))) (ajV6 10 (Int32.toNatClampNeg (V6 6 6)) rfl) ?_
              refine gE_int (g_runS (As := [.int (V 10 (Int32.toNatClampNeg (V6 6 6)))]) (rest := [.long w130]) (wc := []) (tc := []) hx hb hml hown hg gw_self hP hD hK hS hA hnw hgk [] [] (by decide) rfl rfl (x_codeOf2 l D ks H.size (V 10 (Int32.toNatClampNeg (V6 6 6))) ) w246 w247 w157 w248 hdS_yX9_codeOf ⟨Nat.le_of_ble_eq_true rfl, Nat.le_of_ble_eq_true rfl⟩ rfl hl.1 rfl (Nat.le_of_ble_eq_true rfl) dX9_cutWord_65 ⟨Nat.le_of_ble_eq_true rfl, Nat.le_of_ble_eq_true rfl⟩) hP hD hK hS hA (fun z131 u132 H locs w133 hP hD hK hS => ?_)
              have t134 := w133
              have t134 : z131 = (if 48 ≤ ((V 10 (Int32.toNatClampNeg (V6 6 6)))).toInt ∧ ((V 10 (Int32.toNatClampNeg (V6 6 6)))).toInt ≤ 57 then (V 10 (Int32.toNatClampNeg (V6 6 6))) - 48 + 27 else (V 10 (Int32.toNatClampNeg (V6 6 6))) - 97 + 1) := t134
              refine lv_i2l hx hb dX9_cutWord_68 rfl ?_
              refine lv_topl (fun w135 ew135 => ?_)
              refine lv_ladd hx hb dX9_cutWord_69 ?_
              refine lv_topl (fun w136 ew136 => ?_)
              refine lv_goto (tgt := 74) hx hb dX9_cutWord_70 (by decide) ?_
              refine lv_lstore_n (lv' := [(2, .long w136), (1, .int y5), (0, .ref (ad 6))]) hx hb dX9_cutWord_74 rfl hl (by decide) rfl (fun ls hl => ?_)
              obtain ⟨z137, ez137⟩ : ∃ y : Int32, y = y5 + 1 := ⟨_, rfl⟩
              have hz137 : z137.toInt = y5.toInt + 1 := i_add ez137 rfl (by decide) (by (first | exact om_4464765f026c klp7_0.1 f129 | omega))
              refine lv_iinc (v := z137) (lv' := [(1, .int z137), (2, .long w136), (0, .ref (ad 6))]) hx hb dX9_cutWord_75 hl (k := 1) rfl (by rw [ez137]; rfl) (by decide) rfl (fun ls hl => ?_)
              refine lv_aload_n hx hb dX9_cutWord_78 rfl (lv_at hl 2 rfl) ?_
              refine lv_dup hx hb dX9_cutWord_79 rfl ?_
              refine va_get (D := D) (ci := 9) (v := .int (V6 6 6)) (fs := (xfTape ad V6 L Z)) (C := RX9) (T := TX9) (N := 12) hx hb hg inX9 hown hK hP 6 xgTape rfl 6 (by decide) (hg _ w259) (fun _ h9 => h9) rfl dX9_cutWord_80 ?_
              refine lv_iconst (v := 1) hx hb dX9_cutWord_83 (by decide) ?_
              refine lv_iadd hx hb dX9_cutWord_84 ?_
              refine lv_topi (fun z138 ez138 => ?_)
              have hz138 : z138.toInt = ((V6 6 6)).toInt + 1 := i_add ez138 rfl (by decide) (by (first | exact om_41955fcb6566 r1.2 r2.1 klp7_0.1 xlp7_1 f35 | omega))
              refine va_put (D := D) (ci := 9) (v := .int z138) (ty := tyX9 6) (fs := (xfTape ad V6 L Z)) (C := RX9) (T := TX9) (N := 12) hx hb hg inX9 tyX9 tyX9_ok nmX9 hown hK hP hD hS 6 xgTape rfl 6 (by decide) (hg _ w259) (fun _ h9 => h9) rfl (tyX9_ok 6 (by decide)) rfl rfl (Nat.le_of_ble_eq_true rfl) dX9_cutWord_85 (fun H locs hP hD hS => ?_)
              obtain ⟨V139, hV139⟩ : ∃ z, z = up2 V6 6 6 z138 := ⟨_, rfl⟩
              have ew140 : (xw ad kk V6 L Z).set 6 ((ad 6), .inr (9, (xfTape ad V6 L Z).set 6 (.int z138))) = xw ad kk V139 L Z := by rw [hV139]; exact xw_ss (by decide) rfl (xb_si (by decide))
              have hP : va_P D vwCl (xw ad kk V139 L Z) H := by rw [← ew140]; exact hP
              have hD : va_D A (xw ad kk V139 L Z) := by rw [← ew140]; exact hD
              have hMV139 : rgd bX V139 := hMV6.put hV139 (show 0 ≤ z138.toInt ∧ z138.toInt ≤ 4000 from by first | exact om_5bd73bff3568 r1.2 r2.1 klp7_0.1 xlp7_1 f35 hz138 | first | omega | ((try (have i_t81 := Imp.go t81 (imp_a (rgz78.1) (rgz78.2) (f116)))); (try (have i_t40 := Imp.go t40 (f77))); omega) | ((try (have i_t82 := Imp.go t82 (by omega))); (try (have i_t81 := Imp.go t81 (by omega))); (try (have i_t40 := Imp.go t40 (by omega))); (try (have i_t39 := Imp.go t39 (by omega))); first | omega | ((try (have i_rp4 := Imp.go rp4 (by omega))); (try (have i_rp4 := Imp.go rp4 (by omega))); (try (have i_t39 := Imp.go t39 (by omega))); (try (have i_t40 := Imp.go t40 (by omega))); (try (have i_t81 := Imp.go t81 (by omega))); (try (have i_t82 := Imp.go t82 (by omega))); omega)))
              have agV139 : agr [(6, 6)] [12, 14] V V139 := agV6.up hV139 rfl
              refine lv_goto (tgt := 4) hx hb dX9_cutWord_88 (by decide) ?_
              have pq141 : (V139 6 5).toInt = ((V 6 5)).toInt := congrArg Int32.toInt ((up2_k hV139 (by decide)).trans (ajV6 6 5 rfl))
              have pq142 : (V139 6 6).toInt = z138.toInt := congrArg Int32.toInt (up2_s hV139)
              have kz143 := i_clamp (x := (V6 6 6)) rfl (by first | exact om_fb56619e55db r2.1 klp7_0.1 xlp7_1 | first | omega | ((try (have i_t81 := Imp.go t81 (imp_a (rgz78.1) (rgz78.2) (f116)))); (try (have i_t40 := Imp.go t40 (f77))); omega) | ((try (have i_t82 := Imp.go t82 (by omega))); (try (have i_t81 := Imp.go t81 (by omega))); (try (have i_t40 := Imp.go t40 (by omega))); (try (have i_t39 := Imp.go t39 (by omega))); first | omega | ((try (have i_rp4 := Imp.go rp4 (by omega))); (try (have i_rp4 := Imp.go rp4 (by omega))); (try (have i_t39 := Imp.go t39 (by omega))); (try (have i_t40 := Imp.go t40 (by omega))); (try (have i_t81 := Imp.go t81 (by omega))); (try (have i_t82 := Imp.go t82 (by omega))); omega)))
              have ek145 : Int32.toNatClampNeg (V6 6 6) = gs + y5.toInt.toNat := by first | exact om_a24691f97300 rp3 klp7_0.1 xlp7_1 kz143 | first | omega | ((try (have i_t81 := Imp.go t81 (imp_a (rgz78.1) (rgz78.2) (f116)))); (try (have i_t40 := Imp.go t40 (f77))); omega) | ((try (have i_t82 := Imp.go t82 (by omega))); (try (have i_t81 := Imp.go t81 (by omega))); (try (have i_t40 := Imp.go t40 (by omega))); (try (have i_t39 := Imp.go t39 (by omega))); first | omega | ((try (have i_rp4 := Imp.go rp4 (by omega))); (try (have i_rp4 := Imp.go rp4 (by omega))); (try (have i_t39 := Imp.go t39 (by omega))); (try (have i_t40 := Imp.go t40 (by omega))); (try (have i_t81 := Imp.go t81 (by omega))); (try (have i_t82 := Imp.go t82 (by omega))); omega))
              have er144 : (V 10 (Int32.toNatClampNeg (V6 6 6))) = V 10 (gs + y5.toInt.toNat) := by rw [ek145]
              have hp146 : isLD (V 10 (Int32.toNatClampNeg (V6 6 6))) := Or.inr (Imp.go t81 (by (first | exact om_2ebe32d50835 rgz78.1 rgz78.2 f116 | omega)))
              have kz147 := i_clamp (x := (V6 6 6)) rfl (by first | exact om_eafa9039069c r9.1 | first | omega | ((try (have i_t81 := Imp.go t81 (imp_a (rgz78.1) (rgz78.2) (f116)))); (try (have i_t40 := Imp.go t40 (f77))); omega) | ((try (have i_t82 := Imp.go t82 (by omega))); (try (have i_t81 := Imp.go t81 (by omega))); (try (have i_t40 := Imp.go t40 (by omega))); (try (have i_t39 := Imp.go t39 (by omega))); first | omega | ((try (have i_rp4 := Imp.go rp4 (by omega))); (try (have i_rp4 := Imp.go rp4 (by omega))); (try (have i_t39 := Imp.go t39 (by omega))); (try (have i_t40 := Imp.go t40 (by omega))); (try (have i_t81 := Imp.go t81 (by omega))); (try (have i_t82 := Imp.go t82 (by omega))); omega)))
              have ek149 : Int32.toNatClampNeg (V6 6 6) = gs + y5.toInt.toNat := by first | exact om_c9d69e9747b1 ek145 | first | omega | ((try (have i_t81 := Imp.go t81 (imp_a (rgz78.1) (rgz78.2) (f116)))); (try (have i_t40 := Imp.go t40 (f77))); omega) | ((try (have i_t82 := Imp.go t82 (by omega))); (try (have i_t81 := Imp.go t81 (by omega))); (try (have i_t40 := Imp.go t40 (by omega))); (try (have i_t39 := Imp.go t39 (by omega))); first | omega | ((try (have i_rp4 := Imp.go rp4 (by omega))); (try (have i_rp4 := Imp.go rp4 (by omega))); (try (have i_t39 := Imp.go t39 (by omega))); (try (have i_t40 := Imp.go t40 (by omega))); (try (have i_t81 := Imp.go t81 (by omega))); (try (have i_t82 := Imp.go t82 (by omega))); omega))
              have er148 : (V 10 (Int32.toNatClampNeg (V6 6 6))) = V 10 (gs + y5.toInt.toNat) := by rw [ek149]
              have ez150 : z137.toInt.toNat = y5.toInt.toNat + 1 := by first | exact om_dbe402be208f klp7_0.1 hz137 | first | omega | ((try (have i_t81 := Imp.go t81 (imp_a (rgz78.1) (rgz78.2) (f116)))); (try (have i_t40 := Imp.go t40 (f77))); omega) | ((try (have i_t82 := Imp.go t82 (by omega))); (try (have i_t81 := Imp.go t81 (by omega))); (try (have i_t40 := Imp.go t40 (by omega))); (try (have i_t39 := Imp.go t39 (by omega))); first | omega | ((try (have i_rp4 := Imp.go rp4 (by omega))); (try (have i_rp4 := Imp.go rp4 (by omega))); (try (have i_t39 := Imp.go t39 (by omega))); (try (have i_t40 := Imp.go t40 (by omega))); (try (have i_t81 := Imp.go t81 (by omega))); (try (have i_t82 := Imp.go t82 (by omega))); omega))
              exact ihlp7 w136 z137 V139 H locs ls (by first | exact om_a88abdac34d9 rp3 xlp7_1 f129 hz137 kz143 ek145 | first | omega | ((try (have i_t81 := Imp.go t81 (imp_a (rgz78.1) (rgz78.2) (f116)))); (try (have i_t40 := Imp.go t40 (f77))); omega) | ((try (have i_t82 := Imp.go t82 (by omega))); (try (have i_t81 := Imp.go t81 (by omega))); (try (have i_t40 := Imp.go t40 (by omega))); (try (have i_t39 := Imp.go t39 (by omega))); first | omega | ((try (have i_rp4 := Imp.go rp4 (by omega))); (try (have i_rp4 := Imp.go rp4 (by omega))); (try (have i_t39 := Imp.go t39 (by omega))); (try (have i_t40 := Imp.go t40 (by omega))); (try (have i_t81 := Imp.go t81 (by omega))); (try (have i_t82 := Imp.go t82 (by omega))); omega))) (show (V139 6 6).toInt ≤ (V139 6 5).toInt from by first | exact om_1257dc0753d6 f35 hz138 pq141 pq142 | first | omega | ((try (have i_t81 := Imp.go t81 (imp_a (rgz78.1) (rgz78.2) (f116)))); (try (have i_t40 := Imp.go t40 (f77))); omega) | ((try (have i_t82 := Imp.go t82 (by omega))); (try (have i_t81 := Imp.go t81 (by omega))); (try (have i_t40 := Imp.go t40 (by omega))); (try (have i_t39 := Imp.go t39 (by omega))); first | omega | ((try (have i_rp4 := Imp.go rp4 (by omega))); (try (have i_rp4 := Imp.go rp4 (by omega))); (try (have i_t39 := Imp.go t39 (by omega))); (try (have i_t40 := Imp.go t40 (by omega))); (try (have i_t81 := Imp.go t81 (by omega))); (try (have i_t82 := Imp.go t82 (by omega))); omega))) (show (V 6 6).toInt + z137.toInt = (V139 6 6).toInt from by first | exact om_662a1892167c xlp7_1 hz137 hz138 pq142 | first | omega | ((try (have i_t81 := Imp.go t81 (imp_a (rgz78.1) (rgz78.2) (f116)))); (try (have i_t40 := Imp.go t40 (f77))); omega) | ((try (have i_t82 := Imp.go t82 (by omega))); (try (have i_t81 := Imp.go t81 (by omega))); (try (have i_t40 := Imp.go t40 (by omega))); (try (have i_t39 := Imp.go t39 (by omega))); first | omega | ((try (have i_rp4 := Imp.go rp4 (by omega))); (try (have i_rp4 := Imp.go rp4 (by omega))); (try (have i_t39 := Imp.go t39 (by omega))); (try (have i_t40 := Imp.go t40 (by omega))); (try (have i_t81 := Imp.go t81 (by omega))); (try (have i_t82 := Imp.go t82 (by omega))); omega))) (fun k h => by by_cases c : (k : Int) < y5.toInt; exact xlp7_2 k c; have ek : k = y5.toInt.toNat := (by first | omega | ((try (have i_t81 := Imp.go t81 (imp_a (rgz78.1) (rgz78.2) (f116)))); (try (have i_t40 := Imp.go t40 (f77))); omega) | ((try (have i_t82 := Imp.go t82 (by omega))); (try (have i_t81 := Imp.go t81 (by omega))); (try (have i_t40 := Imp.go t40 (by omega))); (try (have i_t39 := Imp.go t39 (by omega))); first | omega | ((try (have i_rp4 := Imp.go rp4 (by omega))); (try (have i_rp4 := Imp.go rp4 (by omega))); (try (have i_t39 := Imp.go t39 (by omega))); (try (have i_t40 := Imp.go t40 (by omega))); (try (have i_t81 := Imp.go t81 (by omega))); (try (have i_t82 := Imp.go t82 (by omega))); omega))); rw [ek, ← er144]; exact hp146) (fun h9 => by rw [ez150, wv_s, ← xlp7_3 (by first | omega | ((try (have i_t81 := Imp.go t81 (imp_a (rgz78.1) (rgz78.2) (f116)))); (try (have i_t40 := Imp.go t40 (f77))); omega) | ((try (have i_t82 := Imp.go t82 (by omega))); (try (have i_t81 := Imp.go t81 (by omega))); (try (have i_t40 := Imp.go t40 (by omega))); (try (have i_t39 := Imp.go t39 (by omega))); first | omega | ((try (have i_rp4 := Imp.go rp4 (by omega))); (try (have i_rp4 := Imp.go rp4 (by omega))); (try (have i_t39 := Imp.go t39 (by omega))); (try (have i_t40 := Imp.go t40 (by omega))); (try (have i_t81 := Imp.go t81 (by omega))); (try (have i_t82 := Imp.go t82 (by omega))); omega))), ← er148]; exact ew136.trans (by rw [ew130, ew135, t134]; rfl)) (by first | exact om_91b464413286 hn pq8 hz138 pq141 pq142 | first | omega | ((try (have i_t81 := Imp.go t81 (imp_a (rgz78.1) (rgz78.2) (f116)))); (try (have i_t40 := Imp.go t40 (f77))); omega) | ((try (have i_t82 := Imp.go t82 (by omega))); (try (have i_t81 := Imp.go t81 (by omega))); (try (have i_t40 := Imp.go t40 (by omega))); (try (have i_t39 := Imp.go t39 (by omega))); first | omega | ((try (have i_rp4 := Imp.go rp4 (by omega))); (try (have i_rp4 := Imp.go rp4 (by omega))); (try (have i_t39 := Imp.go t39 (by omega))); (try (have i_t40 := Imp.go t40 (by omega))); (try (have i_t81 := Imp.go t81 (by omega))); (try (have i_t82 := Imp.go t82 (by omega))); omega))) (agr.up (agr.tr agr.rf ajV6 (by decide) (by decide)) hV139 rfl) hMV139 hP hD hS (lv_sub hl [1, 0, 2] rfl)
  have r151 : Int32.toInt 0 = 0 := by decide
  exact lp7 (((V 6 5).toInt - (V 6 6).toInt + 1 : Int).toNat) 0 0 V H locs ls (by decide) (show (V 6 6).toInt ≤ (V 6 5).toInt from by first | exact om_122d4d21d372 rp1 | first | omega | ((try (have i_rp4 := Imp.go rp4 (by omega))); omega)) (show (V 6 6).toInt + (Int32.toInt 0) = (V 6 6).toInt from by first | exact om_85baa6bcbf4d r151 | first | omega | ((try (have i_rp4 := Imp.go rp4 (by omega))); omega)) (fun k h => absurd h (by have e0 : Int32.toInt 0 = 0 := (by decide); omega)) (fun _ => rfl) (by first | exact om_7441a7786481 | first | omega | ((try (have i_rp4 := Imp.go rp4 (by omega))); omega)) agr.rf hMV hP hD hS (lv_sub hl [0, 1, 2] rfl)
end
section
def SGX (x r : Int32) : Prop := (∃ i : Nat, i < 12 ∧ r = nI i ∧ sgb i = x.toInt8.toInt32) ∨ (r = -1 ∧ ∀ i : Nat, i < 12 → sgb i ≠ x.toInt8.toInt32)
theorem nlt0 {x : Int32} (h : 0 ≤ x.toInt ∧ x.toInt ≤ 126) : ¬ x < 0 := fun q => absurd (Int32.lt_iff_toInt_lt.mp q) (by have e0 : Int32.toInt 0 = 0 := (by decide); omega)
theorem ngt255 {x : Int32} (h : 0 ≤ x.toInt ∧ x.toInt ≤ 126) : ¬ x > 255 := fun q => absurd (Int32.lt_iff_toInt_lt.mp q) (by have e0 : Int32.toInt 255 = 255 := (by decide); omega)


abbrev r_c_canEncode2 : Room := { frames := 0, cells := 0, slots := 0, locals := 0 }
abbrev q_c_canEncode2 (D : va_G) (x0 : Int32) (A : Nat → Prop) : Array Value → State → Outcome → State → Prop := va_Qi (fun (r : Int32) (_ : Unit) => r = 1) (fun u t => gq D A ((fun (_ : Unit) => []) u) ((fun (_ : Unit) => ([] : List (ClassId × FieldType))) u) t) A
set_option maxHeartbeats 4000000 in
set_option maxRecDepth 100000 in
theorem c_canEncode2 (l : Launch) (D : va_G) (ks : KS) (sz : Nat) (x0 : Int32) (hq : 0 ≤ x0.toInt ∧ x0.toInt ≤ 126) : Met l yJ1_canEncode_9a6ad (Cond.code yJ1_canEncode_9a6ad cJ1_canEncode_9a6ad 1 (some .boolean) :: GW) r_c_canEncode2 (va_Pc [.int x0] (gp D ks [] [] sz)) (q_c_canEncode2 D x0 (va_A [] sz)) 0 0 (va_A [] sz) := by
  refine g_met (q_c_canEncode2 D x0) (by decide) (Nat.le_of_ble_eq_true rfl) ?_
  intro p e s m below meth c A ls H locs hx hb hr hml hown hg hlocks hin hnw hgk hP hK hD hS hA hl
  have hown : s.vm.findClass RJ1 = some m.cls := hown
  have hl : lv_has ls 1 [(0, .int x0)] := hl
  refine lv_iload_n hx hb dJ1_canEncode_9a6ad_0 rfl (lv_at hl 0 rfl) ?_
  refine lv_if_lt (tgt := 15) hx hb dJ1_canEncode_9a6ad_1 (by decide) (fun q => absurd q (nlt0 hq)) (fun _ => ?_)
  refine lv_iload_n hx hb dJ1_canEncode_9a6ad_4 rfl (lv_at hl 0 rfl) ?_
  refine lv_sipush (v := 255) hx hb dJ1_canEncode_9a6ad_5 (by decide) ?_
  refine lv_icmp_gt (tgt := 15) hx hb dJ1_canEncode_9a6ad_8 (by decide) (fun q => absurd q (ngt255 hq)) (fun _ => ?_)
  refine lv_iconst (v := 1) hx hb dJ1_canEncode_9a6ad_11 (by decide) ?_
  refine lv_goto (tgt := 16) hx hb dJ1_canEncode_9a6ad_12 (by decide) ?_
  refine W.widen (k := 0) (n := 0) (Nat.le_of_ble_eq_true rfl) (Nat.le_of_ble_eq_true rfl) ?_
  have hP9 := hP.sub (ws' := []) [] rfl
  have hD9 := hD.sub (ws' := []) [] (by decide) rfl
  have hK9 := hK.sub (tys' := []) [] rfl
  exact W.zret (v := 1) hx hb hr rfl (fun t ht hW => ⟨⟨1, (), rfl, (by first | rfl | trivial | assumption | decide), by rw [ht]; exact hP9, va_K.moved hW.alike hK9, hD9⟩, hS.F ht⟩) hS.2.2 dJ1_canEncode_9a6ad_16
abbrev r_c_sg_char2 : Room := { frames := 0, cells := 0, slots := 0, locals := 0 }
abbrev q_c_sg_char2 (D : va_G) (x0 : Int32) (A : Nat → Prop) : Array Value → State → Outcome → State → Prop := va_Qi (fun (r : Int32) (_ : Unit) => SGX x0 r) (fun u t => gq D A ((fun (_ : Unit) => []) u) ((fun (_ : Unit) => ([] : List (ClassId × FieldType))) u) t) A
set_option maxHeartbeats 4000000 in
set_option maxRecDepth 100000 in
theorem c_sg_char2 (l : Launch) (D : va_G) (ks : KS) (sz : Nat) (x0 : Int32) : Met l yJ1_indexOfChar_4cfef (Cond.code yJ1_indexOfChar_4cfef cJ1_indexOfChar_4cfef 6 (some .int) :: GW) r_c_sg_char2 (va_Pc [.ref ks.2.2.2.2, .int x0, .int 0, .int 12] (gp D ks [] [] sz)) (q_c_sg_char2 D x0 (va_A [] sz)) 0 0 (va_A [] sz) := by
  refine g_met (q_c_sg_char2 D x0) (by decide) (Nat.le_of_ble_eq_true rfl) ?_
  intro p e s m below meth c A ls H locs hx hb hr hml hown hg hlocks hin hnw hgk hP hK hD hS hA hl
  have hown : s.vm.findClass RJ1 = some m.cls := hown
  have hl : lv_has ls 6 [(0, .ref ks.2.2.2.2), (1, .int x0), (2, .int 0), (3, .int 12)] := hl
  refine lv_iload_n hx hb dJ1_indexOfChar_4cfef_0 rfl (lv_at hl 1 rfl) ?_
  refine lv_i2b hx hb dJ1_indexOfChar_4cfef_1 rfl ?_
  refine lv_istore (lv' := [(4, .int (x0).toInt8.toInt32), (0, .ref ks.2.2.2.2), (1, .int x0), (2, .int 0), (3, .int 12)]) hx hb dJ1_indexOfChar_4cfef_2 hl (by decide) rfl (fun ls hl => ?_)
  refine lv_iload_n hx hb dJ1_indexOfChar_4cfef_4 rfl (lv_at hl 3 rfl) ?_
  refine lv_istore (lv' := [(5, .int 0), (4, .int (x0).toInt8.toInt32), (0, .ref ks.2.2.2.2), (1, .int x0), (2, .int 0), (3, .int 12)]) hx hb dJ1_indexOfChar_4cfef_5 hl (by decide) rfl (fun ls hl => ?_)
  refine W.widen (k := 0) (n := 0) (Nat.le_of_ble_eq_true rfl) (Nat.le_of_ble_eq_true rfl) ?_
  have lp1 : ∀ (n : Nat) (i : Nat) (H : Heap) (locs : List Loc) (ls : Array Slot), i ≤ 12 → (∀ k : Nat, k < i → sgb k ≠ x0.toInt8.toInt32) → 12 < i + n → va_P D vwCl [] H → va_D A [] → va_S A s.heap H locs → lv_has ls 6 [(5, .int (nI i)), (4, .int (x0).toInt8.toInt32), (0, .ref ks.2.2.2.2), (1, .int x0), (2, .int 0), (3, .int 12)] → W p l e r_c_sg_char2 s m ([.ref ks.2.2.2.2, .int x0, .int 0, .int 12] : List Value).toArray below meth c H locs (0) (0) (MQ below (q_c_sg_char2 D x0 A) ([.ref ks.2.2.2.2, .int x0, .int 0, .int 12] : List Value).toArray s 0 0 A) (F0 m 7 ls []) := by
    intro n
    induction n with
    | zero =>
      intro i H locs ls hi hs9 hn hP hD hS hl
      exact absurd hn (by omega)
    | succ n ih =>
      intro i H locs ls hi hs9 hn hP hD hS hl
      refine lv_iload hx hb dJ1_indexOfChar_4cfef_7 (lv_at hl 0 rfl) ?_
      refine lv_iload_n hx hb dJ1_indexOfChar_4cfef_9 rfl (lv_at hl 5 rfl) ?_
      refine lv_icmp_ge (tgt := 31) hx hb dJ1_indexOfChar_4cfef_10 (by decide) (fun c2 => ?_) (fun c2 => ?_)
      · skip
        have gc2 : 12 ≤ i := g_ge_ge (L := 12) (by omega) (by omega) c2
        refine lv_iconst (v := (-1)) hx hb dJ1_indexOfChar_4cfef_31 (by decide) ?_
        refine W.widen (k := 0) (n := 0) (Nat.le_of_ble_eq_true rfl) (Nat.le_of_ble_eq_true rfl) ?_
        have hP9 := hP.sub (ws' := []) [] rfl
        have hD9 := hD.sub (ws' := []) [] (by decide) rfl
        have hK9 := hK.sub (tys' := []) [] rfl
        exact W.iret (v := (-1)) hx hb hr (fun t ht hW => ⟨⟨(-1), (), rfl, (Or.inr ⟨rfl, fun k hk => hs9 k (by omega)⟩), by rw [ht]; exact hP9, va_K.moved hW.alike hK9, hD9⟩, hS.F ht⟩) hS.2.2 dJ1_indexOfChar_4cfef_32
      · skip
        have gc2 : i < 12 := g_lt_ge (L := 12) (by omega) (by omega) c2
        refine lv_aload_n hx hb dJ1_indexOfChar_4cfef_13 rfl (lv_at hl 2 rfl) ?_
        refine lv_iload hx hb dJ1_indexOfChar_4cfef_14 (lv_at hl 0 rfl) ?_
        refine va_tb (v := .int (sgb i)) hx hb (hgk.2.2.2.2.2.1.1 0 (by decide)).2.2.2 hS (show vp_in (nI i) 12 from vp_in_nI (by omega) (by omega)) (by rw [nI_clamp (by omega)]; rfl) dJ1_indexOfChar_4cfef_16 ?_
        refine lv_iload hx hb dJ1_indexOfChar_4cfef_17 (lv_at hl 1 rfl) ?_
        refine lv_icmp_ne (tgt := 25) hx hb dJ1_indexOfChar_4cfef_19 (by decide) (fun c3 => ?_) (fun c3 => ?_)
        · skip
          refine lv_iinc (v := (nI (i + 1))) (lv' := [(5, .int (nI (i + 1))), (4, .int (x0).toInt8.toInt32), (0, .ref ks.2.2.2.2), (1, .int x0), (2, .int 0), (3, .int 12)]) hx hb dJ1_indexOfChar_4cfef_25 hl (k := 0) rfl (nI_1 _) (by decide) rfl (fun ls hl => ?_)
          refine lv_goto (tgt := 7) hx hb dJ1_indexOfChar_4cfef_28 (by decide) ?_
          exact ih (i + 1) H locs ls (by omega) (fun k hk => (Nat.decEq k i).byCases (fun q => by rw [q]; exact c3) (fun q => hs9 k (by omega))) (by omega) (hP.sub [] rfl) (hD.sub [] (by decide) rfl) hS (lv_sub hl [0, 1, 2, 3, 4, 5] rfl)
        · skip
          refine lv_iload hx hb dJ1_indexOfChar_4cfef_22 (lv_at hl 0 rfl) ?_
          refine W.widen (k := 0) (n := 0) (Nat.le_of_ble_eq_true rfl) (Nat.le_of_ble_eq_true rfl) ?_
          have hP9 := hP.sub (ws' := []) [] rfl
          have hD9 := hD.sub (ws' := []) [] (by decide) rfl
          have hK9 := hK.sub (tys' := []) [] rfl
          exact W.iret (v := (nI i)) hx hb hr (fun t ht hW => ⟨⟨(nI i), (), rfl, (Or.inl ⟨i, by omega, rfl, c3⟩), by rw [ht]; exact hP9, va_K.moved hW.alike hK9, hD9⟩, hS.F ht⟩) hS.2.2 dJ1_indexOfChar_4cfef_24
  exact lp1 13 0 H locs ls (by omega) (fun k hk => absurd hk (Nat.not_lt_zero _)) (by omega) hP hD hS hl
abbrev r_c_sg_index42 : Room := { frames := 1, cells := 0, slots := 0, locals := 25 }
abbrev q_c_sg_index42 (D : va_G) (x0 : Int32) (A : Nat → Prop) : Array Value → State → Outcome → State → Prop := va_Qi (fun (r : Int32) (_ : Unit) => SGX x0 r) (fun u t => gq D A ((fun (_ : Unit) => []) u) ((fun (_ : Unit) => ([] : List (ClassId × FieldType))) u) t) A
set_option maxHeartbeats 4000000 in
set_option maxRecDepth 100000 in
theorem c_sg_index42 (l : Launch) (D : va_G) (ks : KS) (sz : Nat) (x0 : Int32) (hq : 0 ≤ x0.toInt ∧ x0.toInt ≤ 126) : Met l yJ1_indexOf_4cfef (Cond.code yJ1_indexOf_4cfef cJ1_indexOf_4cfef 4 (some .int) :: GW) r_c_sg_index42 (va_Pc [.ref ks.2.2.2.2, .int x0, .int 0, .int 12] (gp D ks [] [] sz)) (q_c_sg_index42 D x0 (va_A [] sz)) 0 0 (va_A [] sz) := by
  refine g_met (q_c_sg_index42 D x0) (by decide) (Nat.le_of_ble_eq_true rfl) ?_
  intro p e s m below meth c A ls H locs hx hb hr hml hown hg hlocks hin hnw hgk hP hK hD hS hA hl
  have hown : s.vm.findClass RJ1 = some m.cls := hown
  have hl : lv_has ls 4 [(0, .ref ks.2.2.2.2), (1, .int x0), (2, .int 0), (3, .int 12)] := hl
  refine lv_iload_n hx hb dJ1_indexOf_4cfef_0 rfl (lv_at hl 1 rfl) ?_
  refine g_int (wr := []) (tr := []) (g_runS (As := [.int x0]) (rest := []) (wc := []) (tc := []) hx hb hml hown hg gw_self hP hD hK hS hA hnw hgk [] [] (by decide) rfl rfl (c_canEncode2 l D ks H.size x0 hq) w804 w805 w159 w806 hdS_yJ1_canEncode_9a6ad ⟨Nat.le_of_ble_eq_true rfl, Nat.le_of_ble_eq_true rfl⟩ rfl hl.1 rfl (Nat.le_of_ble_eq_true rfl) dJ1_indexOf_4cfef_1 ⟨Nat.le_of_ble_eq_true rfl, Nat.le_of_ble_eq_true rfl⟩) hP hD hK hS hA [] [] [] rfl rfl (by decide) (by decide) rfl (fun r3 u2 H locs hw1 hP hD hK hS => ?_)
  have hw1 : r3 = 1 := hw1
  subst hw1
  have hP : va_P D vwCl [] H := hP
  have hD : va_D A [] := hD
  have hK : va_K D vwCl [] s := hK
  refine lv_if_ne (tgt := 9) hx hb dJ1_indexOf_4cfef_4 (by decide) (fun _ => ?_) (fun q => absurd q (by decide))
  refine lv_iload_n hx hb dJ1_indexOf_4cfef_9 rfl (lv_at hl 2 rfl) ?_
  refine lv_iconst (v := 0) hx hb dJ1_indexOf_4cfef_10 (by decide) ?_
  refine va_mmax (x := 0) (y := 0) hx hb (hml.trans hl.1.symm) hown (hg _ w807) (hg _ w808) (hg _ w173) (hg _ w809) (Nat.le_of_ble_eq_true rfl) (Nat.le_of_ble_eq_true rfl) (Nat.le_of_ble_eq_true rfl) (Nat.le_of_ble_eq_true rfl) dJ1_indexOf_4cfef_11 ?_
  refine g_top (v := 0) (by decide) ?_
  refine lv_istore_n (lv' := [(2, .int 0), (0, .ref ks.2.2.2.2), (1, .int x0), (3, .int 12)]) hx hb dJ1_indexOf_4cfef_14 rfl hl (by decide) rfl (fun ls hl => ?_)
  refine lv_iload_n hx hb dJ1_indexOf_4cfef_15 rfl (lv_at hl 3 rfl) ?_
  refine lv_aload_n hx hb dJ1_indexOf_4cfef_16 rfl (lv_at hl 1 rfl) ?_
  refine va_tlen (v := 12) hx hb (hgk.2.2.2.2.2.1.1 0 (by decide)).2.2.2 hS rfl dJ1_indexOf_4cfef_17 ?_
  refine va_mmin (x := 12) (y := 12) hx hb (hml.trans hl.1.symm) hown (hg _ w810) (hg _ w811) (hg _ w173) (hg _ w812) (Nat.le_of_ble_eq_true rfl) (Nat.le_of_ble_eq_true rfl) (Nat.le_of_ble_eq_true rfl) (Nat.le_of_ble_eq_true rfl) dJ1_indexOf_4cfef_18 ?_
  refine g_top (v := 12) (by decide) ?_
  refine lv_istore_n (lv' := [(3, .int 12), (2, .int 0), (0, .ref ks.2.2.2.2), (1, .int x0)]) hx hb dJ1_indexOf_4cfef_21 rfl hl (by decide) rfl (fun ls hl => ?_)
  refine lv_iload_n hx hb dJ1_indexOf_4cfef_22 rfl (lv_at hl 1 rfl) ?_
  refine lv_iload_n hx hb dJ1_indexOf_4cfef_23 rfl (lv_at hl 0 rfl) ?_
  refine lv_icmp_lt (tgt := 29) hx hb dJ1_indexOf_4cfef_24 (by decide) (fun _ => ?_) (fun q => absurd (by decide) q)
  refine lv_aload_n hx hb dJ1_indexOf_4cfef_29 rfl (lv_at hl 2 rfl) ?_
  refine lv_iload_n hx hb dJ1_indexOf_4cfef_30 rfl (lv_at hl 3 rfl) ?_
  refine lv_iload_n hx hb dJ1_indexOf_4cfef_31 rfl (lv_at hl 1 rfl) ?_
  refine lv_iload_n hx hb dJ1_indexOf_4cfef_32 rfl (lv_at hl 0 rfl) ?_
  refine g_int (wr := []) (tr := []) (g_runS (As := [.ref ks.2.2.2.2, .int x0, .int 0, .int 12]) (rest := []) (wc := []) (tc := []) hx hb hml hown hg gw_self hP hD hK hS hA hnw hgk [] [] (by decide) rfl rfl (c_sg_char2 l D ks H.size x0) w813 w814 w159 w815 hdS_yJ1_indexOfChar_4cfef ⟨Nat.le_of_ble_eq_true rfl, Nat.le_of_ble_eq_true rfl⟩ rfl hl.1 rfl (Nat.le_of_ble_eq_true rfl) dJ1_indexOf_4cfef_33 ⟨Nat.le_of_ble_eq_true rfl, Nat.le_of_ble_eq_true rfl⟩) hP hD hK hS hA [] [] [] rfl rfl (by decide) (by decide) rfl (fun r6 u5 H locs hw4 hP hD hK hS => ?_)
  have hw4 : SGX x0 r6 := hw4
  have hP : va_P D vwCl [] H := hP
  have hD : va_D A [] := hD
  have hK : va_K D vwCl [] s := hK
  refine W.widen (k := 0) (n := 0) (Nat.le_of_ble_eq_true rfl) (Nat.le_of_ble_eq_true rfl) ?_
  have hP9 := hP.sub (ws' := []) [] rfl
  have hD9 := hD.sub (ws' := []) [] (by decide) rfl
  have hK9 := hK.sub (tys' := []) [] rfl
  exact W.iret (v := r6) hx hb hr (fun t ht hW => ⟨⟨r6, (), rfl, hw4, by rw [ht]; exact hP9, va_K.moved hW.alike hK9, hD9⟩, hS.F ht⟩) hS.2.2 dJ1_indexOf_4cfef_36
abbrev r_c_sg_index32 : Room := { frames := 2, cells := 0, slots := 0, locals := 48 }
abbrev q_c_sg_index32 (D : va_G) (x0 : Int32) (A : Nat → Prop) : Array Value → State → Outcome → State → Prop := va_Qi (fun (r : Int32) (_ : Unit) => SGX x0 r) (fun u t => gq D A ((fun (_ : Unit) => []) u) ((fun (_ : Unit) => ([] : List (ClassId × FieldType))) u) t) A
set_option maxHeartbeats 4000000 in
set_option maxRecDepth 100000 in
theorem c_sg_index32 (l : Launch) (D : va_G) (ks : KS) (sz : Nat) (x0 : Int32) (hq : 0 ≤ x0.toInt ∧ x0.toInt ≤ 126) : Met l yJ0_indexOf_7cf53 (Cond.code yJ0_indexOf_7cf53 cJ0_indexOf_7cf53 3 (some .int) :: GW) r_c_sg_index32 (va_Pc [.ref ks.2.2.2.1, .int x0, .int 0] (gp D ks [] [] sz)) (q_c_sg_index32 D x0 (va_A [] sz)) 0 0 (va_A [] sz) := by
  refine g_met (q_c_sg_index32 D x0) (by decide) (Nat.le_of_ble_eq_true rfl) ?_
  intro p e s m below meth c A ls H locs hx hb hr hml hown hg hlocks hin hnw hgk hP hK hD hS hA hl
  have hown : s.vm.findClass RJ0 = some m.cls := hown
  have hl : lv_has ls 3 [(0, .ref ks.2.2.2.1), (1, .int x0), (2, .int 0)] := hl
  refine lv_aload_n hx hb dJ0_indexOf_7cf53_0 rfl (lv_at hl 0 rfl) ?_
  refine g_int (wr := []) (tr := []) (g_runW (As := []) (rest := []) (wc := []) (tc := []) (C := RJ0) hx hb hml hown hg gw_self hP hD hK hS hA hnw hgk [] [] (by decide) rfl rfl (c_sg_isLatin1 l D ks H.size) w211 w212 w213 w158 w214 (vk_recv (i := 0) hgk.2.2.2.2.2.1 (by decide) hS) hdV_yJ0_isLatin1_aae02 ⟨Nat.le_of_ble_eq_true rfl, Nat.le_of_ble_eq_true rfl⟩ rfl hl.1 rfl (Nat.le_of_ble_eq_true rfl) dJ0_indexOf_7cf53_1 ⟨Nat.le_of_ble_eq_true rfl, Nat.le_of_ble_eq_true rfl⟩) hP hD hK hS hA [] [] [] rfl rfl (by decide) (by decide) rfl (fun r3 u2 H locs hw1 hP hD hK hS => ?_)
  have hw1 : r3 = 1 := hw1
  subst hw1
  have hP : va_P D vwCl [] H := hP
  have hD : va_D A [] := hD
  have hK : va_K D vwCl [] s := hK
  refine lv_if_eq (tgt := 23) hx hb dJ0_indexOf_7cf53_4 (by decide) (fun q => absurd q (by decide)) (fun _ => ?_)
  refine lv_aload_n hx hb dJ0_indexOf_7cf53_7 rfl (lv_at hl 0 rfl) ?_
  refine vk_getf (v := .ref ks.2.2.2.2) hx hb (hgk.2.2.2.2.2.1.1 0 (by decide)).2.2.1 hS hown (hg _ w2398) (fun _ h9 => h9) dJ0_indexOf_7cf53_8 ?_
  refine lv_iload_n hx hb dJ0_indexOf_7cf53_11 rfl (lv_at hl 1 rfl) ?_
  refine lv_iload_n hx hb dJ0_indexOf_7cf53_12 rfl (lv_at hl 2 rfl) ?_
  refine lv_aload_n hx hb dJ0_indexOf_7cf53_13 rfl (lv_at hl 0 rfl) ?_
  refine g_int (wr := []) (tr := []) (g_runW (As := []) (rest := [.int 0, .int x0, .ref ks.2.2.2.2]) (wc := []) (tc := []) (C := RJ0) hx hb hml hown hg gw_self hP hD hK hS hA hnw hgk [] [] (by decide) rfl rfl (c_sg_length l D ks H.size) w800 w198 w199 w158 w200 (vk_recv (i := 0) hgk.2.2.2.2.2.1 (by decide) hS) hdV_yJ0_length_8abf5 ⟨Nat.le_of_ble_eq_true rfl, Nat.le_of_ble_eq_true rfl⟩ rfl hl.1 rfl (Nat.le_of_ble_eq_true rfl) dJ0_indexOf_7cf53_14 ⟨Nat.le_of_ble_eq_true rfl, Nat.le_of_ble_eq_true rfl⟩) hP hD hK hS hA [] [] [] rfl rfl (by decide) (by decide) rfl (fun r6 u5 H locs hw4 hP hD hK hS => ?_)
  have hw4 : r6 = 12 := hw4
  subst hw4
  have hP : va_P D vwCl [] H := hP
  have hD : va_D A [] := hD
  have hK : va_K D vwCl [] s := hK
  refine g_int (wr := []) (tr := []) (g_runS (As := [.ref ks.2.2.2.2, .int x0, .int 0, .int 12]) (rest := []) (wc := []) (tc := []) hx hb hml hown hg gw_self hP hD hK hS hA hnw hgk [] [] (by decide) rfl rfl (c_sg_index42 l D ks H.size x0 hq) w801 w802 w159 w803 hdS_yJ1_indexOf_4cfef ⟨Nat.le_of_ble_eq_true rfl, Nat.le_of_ble_eq_true rfl⟩ rfl hl.1 rfl (Nat.le_of_ble_eq_true rfl) dJ0_indexOf_7cf53_17 ⟨Nat.le_of_ble_eq_true rfl, Nat.le_of_ble_eq_true rfl⟩) hP hD hK hS hA [] [] [] rfl rfl (by decide) (by decide) rfl (fun r9 u8 H locs hw7 hP hD hK hS => ?_)
  have hw7 : SGX x0 r9 := hw7
  have hP : va_P D vwCl [] H := hP
  have hD : va_D A [] := hD
  have hK : va_K D vwCl [] s := hK
  refine lv_goto (tgt := 36) hx hb dJ0_indexOf_7cf53_20 (by decide) ?_
  refine W.widen (k := 0) (n := 0) (Nat.le_of_ble_eq_true rfl) (Nat.le_of_ble_eq_true rfl) ?_
  have hP9 := hP.sub (ws' := []) [] rfl
  have hD9 := hD.sub (ws' := []) [] (by decide) rfl
  have hK9 := hK.sub (tys' := []) [] rfl
  exact W.iret (v := r9) hx hb hr (fun t ht hW => ⟨⟨r9, (), rfl, hw7, by rw [ht]; exact hP9, va_K.moved hW.alike hK9, hD9⟩, hS.F ht⟩) hS.2.2 dJ0_indexOf_7cf53_36
abbrev r_c_sg_index2 : Room := { frames := 3, cells := 0, slots := 0, locals := 70 }
abbrev q_c_sg_index2 (D : va_G) (x0 : Int32) (A : Nat → Prop) : Array Value → State → Outcome → State → Prop := va_Qi (fun (r : Int32) (_ : Unit) => SGX x0 r) (fun u t => gq D A ((fun (_ : Unit) => []) u) ((fun (_ : Unit) => ([] : List (ClassId × FieldType))) u) t) A
set_option maxHeartbeats 4000000 in
set_option maxRecDepth 100000 in
theorem c_sg_index2 (l : Launch) (D : va_G) (ks : KS) (sz : Nat) (x0 : Int32) (hq : 0 ≤ x0.toInt ∧ x0.toInt ≤ 126) : Met l yJ0_indexOf_0f7a4 (Cond.code yJ0_indexOf_0f7a4 cJ0_indexOf_0f7a4 2 (some .int) :: GW) r_c_sg_index2 (va_Pc [.ref ks.2.2.2.1, .int x0] (gp D ks [] [] sz)) (q_c_sg_index2 D x0 (va_A [] sz)) 0 0 (va_A [] sz) := by
  refine g_met (q_c_sg_index2 D x0) (by decide) (Nat.le_of_ble_eq_true rfl) ?_
  intro p e s m below meth c A ls H locs hx hb hr hml hown hg hlocks hin hnw hgk hP hK hD hS hA hl
  have hown : s.vm.findClass RJ0 = some m.cls := hown
  have hl : lv_has ls 2 [(0, .ref ks.2.2.2.1), (1, .int x0)] := hl
  refine lv_aload_n hx hb dJ0_indexOf_0f7a4_0 rfl (lv_at hl 0 rfl) ?_
  refine lv_iload_n hx hb dJ0_indexOf_0f7a4_1 rfl (lv_at hl 1 rfl) ?_
  refine lv_iconst (v := 0) hx hb dJ0_indexOf_0f7a4_2 (by decide) ?_
  refine g_int (wr := []) (tr := []) (g_runW (As := [.int x0, .int 0]) (rest := []) (wc := []) (tc := []) (C := RJ0) hx hb hml hown hg gw_self hP hD hK hS hA hnw hgk [] [] (by decide) rfl rfl (c_sg_index32 l D ks H.size x0 hq) w796 w797 w798 w158 w799 (vk_recv (i := 0) hgk.2.2.2.2.2.1 (by decide) hS) hdV_yJ0_indexOf_7cf53 ⟨Nat.le_of_ble_eq_true rfl, Nat.le_of_ble_eq_true rfl⟩ rfl hl.1 rfl (Nat.le_of_ble_eq_true rfl) dJ0_indexOf_0f7a4_3 ⟨Nat.le_of_ble_eq_true rfl, Nat.le_of_ble_eq_true rfl⟩) hP hD hK hS hA [] [] [] rfl rfl (by decide) (by decide) rfl (fun r3 u2 H locs hw1 hP hD hK hS => ?_)
  have hw1 : SGX x0 r3 := hw1
  have hP : va_P D vwCl [] H := hP
  have hD : va_D A [] := hD
  have hK : va_K D vwCl [] s := hK
  refine W.widen (k := 0) (n := 0) (Nat.le_of_ble_eq_true rfl) (Nat.le_of_ble_eq_true rfl) ?_
  have hP9 := hP.sub (ws' := []) [] rfl
  have hD9 := hD.sub (ws' := []) [] (by decide) rfl
  have hK9 := hK.sub (tys' := []) [] rfl
  exact W.iret (v := r3) hx hb hr (fun t ht hW => ⟨⟨r3, (), rfl, hw1, by rw [ht]; exact hP9, va_K.moved hW.alike hK9, hD9⟩, hS.F ht⟩) hS.2.2 dJ0_indexOf_0f7a4_6
end
section
/-! a token: where it ends, what the class holds of it -/
def isTp (x : Int32) : Prop := x.toInt = 10 ∨ (32 ≤ x.toInt ∧ x.toInt ≤ 126)
def isSg (x : Int32) : Prop := ∃ i : Nat, i < 12 ∧ sgb i = x
def TE (f : Nat → Int32) (n s e : Nat) : Prop := (isDg (f s) ∧ RUN isDg f n s e) ∨ (isLt (f s) ∧ RUN isLD f n s e) ∨ (¬ isDg (f s) ∧ ¬ isLt (f s) ∧ e = s + 1 ∧ s < n)
def TC (L : Lf) (f : Nat → Int32) (s e : Nat) (kd : Int) (vl : Int64) : Prop :=
  (isDg (f s) → (9 < e - s → kd = 1) ∧ (e - s ≤ 9 → kd = 2 ∧ vl = nv f s (e - s))) ∧ (isLt (f s) → (12 < e - s → kd = 1) ∧ (e - s ≤ 12 → KW L (wv f s (e - s)) kd ∧ vl = wv f s (e - s))) ∧ (¬ isDg (f s) → ¬ isLt (f s) → (isSg (f s) ∧ kd = (f s).toInt) ∨ (¬ isSg (f s) ∧ kd = 1))
def CUT (V W : Vf) (L M : Lf) (gs t : Nat) : Prop := ∃ e : Nat, TE (V 10) (V 6 5).toInt.toNat gs e ∧ (W 6 6).toInt = (e : Int) ∧ (W 13 t).toInt = (gs : Int) ∧ TC L (V 10) gs e (W 12 t).toInt (M 14 t) ∧ ∀ k, k ≠ t → W 12 k = V 12 k ∧ W 13 k = V 13 k ∧ M 14 k = L 14 k
theorem dg_lt {x : Int32} (h : isDg x) (k : isLt x) : False := by
  have a := h.2
  have b := k.1
  omega
theorem TE.uq {f : Nat → Int32} {n s e d : Nat} (h : TE f n s e) (k : TE f n s d) : e = d := by
  rcases h with h | h | h <;> rcases k with k | k | k
  · exact h.2.uq k.2
  · exact absurd k.1 (fun q => dg_lt h.1 q)
  · exact absurd h.1 k.1
  · exact absurd h.1 (fun q => dg_lt k.1 q)
  · exact h.2.uq k.2
  · exact absurd h.1 k.2.1
  · exact absurd k.1 h.1
  · exact absurd k.1 h.2.1
  · rw [h.2.2.1, k.2.2.1]
theorem TE.lt {f : Nat → Int32} {n s e : Nat} (h : TE f n s e) : s < e ∧ e ≤ n := by
  rcases h with h | h | h
  · exact ⟨h.2.1, h.2.2.1⟩
  · exact ⟨h.2.1, h.2.2.1⟩
  · have a := h.2.2.1
    have b := h.2.2.2
    omega
theorem TE.ex {f g : Nat → Int32} {n s e : Nat} (h : TE f n s e) (q : eqB n f g) : TE g n s e := by
  have a := h.lt
  have es : f s = g s := q s (by omega)
  rcases h with h | h | h
  · exact Or.inl ⟨by rw [← es]; exact h.1, h.2.ex q⟩
  · exact Or.inr (Or.inl ⟨by rw [← es]; exact h.1, h.2.ex q⟩)
  · exact Or.inr (Or.inr ⟨by rw [← es]; exact h.1, by rw [← es]; exact h.2.1, h.2.2.1, h.2.2.2⟩)
theorem KW.ex {L M : Lf} {w : Int64} {x : Int} (h : KW L w x) (e : L 11 = M 11) : KW M w x := by
  unfold KW at h ⊢
  rw [← e]
  exact h
theorem TC.ex {L M : Lf} {f : Nat → Int32} {s e : Nat} {kd : Int} {vl : Int64} (h : TC L f s e kd vl) (q : L 11 = M 11) : TC M f s e kd vl :=
  ⟨h.1, fun a => ⟨(h.2.1 a).1, fun b => ⟨((h.2.1 a).2 b).1.ex q, ((h.2.1 a).2 b).2⟩⟩, h.2.2⟩
theorem upL_14 {L M : Lf} {t : Nat} {v : Int64} (h : M = upL L 14 t v) : L 11 = M 11 ∧ ∀ k, k ≠ t → M 14 k = L 14 k :=
  ⟨by rw [h]; unfold upL; rw [if_neg (by decide)], fun k hk => by rw [h]; unfold upL vp_updL; rw [if_pos rfl, if_neg hk]⟩
theorem CUT.mk1 {V V4 W5 W : Vf} {L L6 M : Lf} {gs t e : Nat} {p : Int32} (h4 : V4 = up2 V 13 t p) (hp : p.toInt = (gs : Int)) (h6 : L6 = upL L 14 t 0) (a13 : W5 13 = V4 13) (w12 : W 12 = W5 12) (w13 : W 13 = W5 13) (w6 : (W 6 6).toInt = (e : Int))
    (te : TE (V 10) (V 6 5).toInt.toNat gs e) (tc : TC L (V 10) gs e (W5 12 t).toInt (M 14 t)) (ot : ∀ k, k ≠ t → W5 12 k = V4 12 k ∧ M 14 k = L6 14 k) : CUT V W L M gs t := by
  have f13 : W 13 = upd (V 13) t p := by rw [w13, a13, up2_fn h4]
  refine ⟨e, te, w6, ?_, by rw [w12]; exact tc, fun k hk => ⟨?_, ?_, ?_⟩⟩
  · rw [f13]
    unfold upd
    rw [if_pos rfl]
    exact hp
  · rw [w12, (ot k hk).1, (up2_fo h4 (by decide) : V4 12 = V 12)]
  · rw [f13]
    exact if_neg hk
  · rw [(ot k hk).2]
    exact (upL_14 h6).2 k hk
theorem CUT.sg {V V4 V5 W : Vf} {L L6 : Lf} {gs t : Nat} {p x : Int32} (h4 : V4 = up2 V 13 t p) (hp : p.toInt = (gs : Int)) (h6 : L6 = upL L 14 t 0) (h5 : V5 = up2 V4 12 t x) (w12 : W 12 = V5 12) (w13 : W 13 = V5 13) (w6 : (W 6 6).toInt = (gs : Int) + 1)
    (n1 : ¬ isDg (V 10 gs)) (n2 : ¬ isLt (V 10 gs)) (hl : gs < (V 6 5).toInt.toNat) (hk : (isSg (V 10 gs) ∧ x = V 10 gs) ∨ (¬ isSg (V 10 gs) ∧ x = 1)) : CUT V W L L6 gs t :=
  CUT.mk1 (e := gs + 1) h4 hp h6 (up2_fo h5 (by decide)) w12 w13 (by rw [w6]; omega) (Or.inr (Or.inr ⟨n1, n2, rfl, hl⟩))
    ⟨fun q => absurd q n1, fun q => absurd q n2, fun _ _ => by
      have e : V5 12 t = x := up2_s h5
      rw [e]
      exact hk.elim (fun q => Or.inl ⟨q.1, by rw [q.2]⟩) (fun q => Or.inr ⟨q.1, by rw [q.2]; decide⟩)⟩
    (fun k hk => ⟨by rw [up2_fn h5]; exact if_neg hk, rfl⟩)
theorem i2c_l : ∀ n, n < 127 → ((nI n).toUInt32 % 65536).toInt32 = nI n := by decide +kernel
theorem i2b_l : ∀ n, n < 127 → (nI n).toInt8.toInt32 = nI n := by decide +kernel
theorem tp_nI {x : Int32} (h : 0 ≤ x.toInt ∧ x.toInt ≤ 126) : x = nI x.toInt.toNat := Int32.toInt_inj.mp (by rw [nI_toInt (by omega)]; omega)
theorem tp_c {x : Int32} (h : 0 ≤ x.toInt ∧ x.toInt ≤ 126) : (x.toUInt32 % 65536).toInt32 = x := by
  rw [tp_nI h]
  exact i2c_l _ (by omega)
theorem tp_b {x : Int32} (h : 0 ≤ x.toInt ∧ x.toInt ≤ 126) : x.toInt8.toInt32 = x := by
  rw [tp_nI h]
  exact i2b_l _ (by omega)
theorem sg_y {x r : Int32} (h : SGX x r) (hx : 0 ≤ x.toInt ∧ x.toInt ≤ 126) (c : 0 ≤ r.toInt) : isSg x := by
  rcases h with ⟨i, hi, _, q⟩ | ⟨q, _⟩
  · exact ⟨i, hi, by rw [q, tp_b hx]⟩
  · rw [q] at c
    exact absurd c (by decide)
theorem sg_n {x r : Int32} (h : SGX x r) (hx : 0 ≤ x.toInt ∧ x.toInt ≤ 126) (c : r.toInt < 0) : ¬ isSg x := by
  rcases h with ⟨i, hi, q, _⟩ | ⟨_, q⟩
  · rw [q, nI_toInt (by omega)] at c
    omega
  · intro ⟨i, hi, z⟩
    exact q i hi (by rw [z, tp_b hx])
/-! all tokens -/
def upN (f : Nat → Nat) (t p : Nat) : Nat → Nat := fun k => if k = t then p else f k
theorem upN_s (f : Nat → Nat) (t p : Nat) : upN f t p t = p := if_pos rfl
theorem upN_o (f : Nat → Nat) (t p : Nat) {k : Nat} (h : k ≠ t) : upN f t p k = f k := if_neg h
def TKS (f : Nat → Int32) (n : Nat) (S E : Nat → Nat) (t p : Nat) : Prop := E 0 = 0 ∧ (∀ j, j < t → E j ≤ S j ∧ (∀ k, E j ≤ k → k < S j → isBl (f k)) ∧ ¬ isBl (f (S j)) ∧ TE f n (S j) (E (j + 1))) ∧ E t ≤ p ∧ p ≤ n ∧ ∀ k, E t ≤ k → k < p → isBl (f k)
theorem TKS.bl {f : Nat → Int32} {n : Nat} {S E : Nat → Nat} {t p : Nat} (h : TKS f n S E t p) (hp : p < n) (b : isBl (f p)) : TKS f n S E t (p + 1) :=
  ⟨h.1, h.2.1, by have := h.2.2.1; omega, hp, fun k a c => by
    by_cases e : k = p
    · rw [e]; exact b
    · exact h.2.2.2.2 k a (by omega)⟩
theorem TKS.tk {f : Nat → Int32} {n : Nat} {S E : Nat → Nat} {t p e : Nat} (h : TKS f n S E t p) (b : ¬ isBl (f p)) (te : TE f n p e) : TKS f n (upN S t p) (upN E (t + 1) e) (t + 1) e := by
  refine ⟨?_, fun j hj => ?_, ?_, te.lt.2, ?_⟩
  · rw [upN_o _ _ _ (by omega)]
    exact h.1
  · by_cases c : j = t
    · rw [c, upN_s, upN_s, upN_o _ _ _ (by omega)]
      exact ⟨h.2.2.1, h.2.2.2.2, b, te⟩
    · rw [upN_o _ _ _ c, upN_o _ _ _ (by omega), upN_o _ _ _ (by omega)]
      exact h.2.1 j (by omega)
  · rw [upN_s]
    exact Nat.le_refl _
  · intro k a c
    rw [upN_s] at a
    omega
theorem TKS.st {f : Nat → Int32} {n : Nat} {S E S' E' : Nat → Nat} {t t' : Nat} (h : TKS f n S E t n) (h' : TKS f n S' E' t' n) (j : Nat) : j ≤ t → j ≤ t' ∧ E j = E' j ∧ ∀ i, i < j → S i = S' i := by
  induction j with
  | zero => intro _; exact ⟨Nat.zero_le _, by rw [h.1, h'.1], fun i hi => absurd hi (Nat.not_lt_zero _)⟩
  | succ j ih =>
    intro hj
    obtain ⟨a, b, c⟩ := ih (by omega)
    have d := h.2.1 j (by omega)
    have dl := d.2.2.2.lt
    have lt : j < t' := by
      rcases Nat.lt_or_ge j t' with q | q
      · exact q
      · have ej : j = t' := by omega
        subst ej
        exact absurd (h'.2.2.2.2 (S j) (by rw [← b]; exact d.1) (by omega)) d.2.2.1
    have d' := h'.2.1 j lt
    have es : S j = S' j := by
      rcases Nat.lt_trichotomy (S j) (S' j) with q | q | q
      · exact absurd (d'.2.1 (S j) (by rw [← b]; exact d.1) q) d.2.2.1
      · exact q
      · exact absurd (d.2.1 (S' j) (by rw [b]; exact d'.1) q) d'.2.2.1
    refine ⟨lt, ?_, fun i hi => ?_⟩
    · have z := d'.2.2.2
      rw [← es] at z
      exact d.2.2.2.uq z
    · by_cases e : i = j
      · rw [e]; exact es
      · exact c i (by omega)
theorem TKS.uq {f : Nat → Int32} {n : Nat} {S E S' E' : Nat → Nat} {t t' : Nat} (h : TKS f n S E t n) (h' : TKS f n S' E' t' n) : t = t' ∧ (∀ j, j ≤ t → E j = E' j) ∧ ∀ j, j < t → S j = S' j :=
  ⟨Nat.le_antisymm (h.st h' t (Nat.le_refl _)).1 (h'.st h t' (Nat.le_refl _)).1, fun j hj => (h.st h' j hj).2.1, fun j hj => (h.st h' t (Nat.le_refl _)).2.2 j hj⟩
theorem TKS.ex {f g : Nat → Int32} {n : Nat} {S E : Nat → Nat} {t p : Nat} (h : TKS f n S E t p) (q : eqB n f g) : TKS g n S E t p :=
  ⟨h.1, fun j hj => by
    have d := h.2.1 j hj
    have dl := d.2.2.2.lt
    exact ⟨d.1, fun k a b => by rw [← q k (by omega)]; exact d.2.1 k a b, by rw [← q (S j) (by omega)]; exact d.2.2.1, d.2.2.2.ex q⟩, h.2.2.1, h.2.2.2.1, fun k a b => by rw [← q k (by have := h.2.2.2.1; omega)]; exact h.2.2.2.2 k a b⟩
def CTK (K : Lf) (f : Nat → Int32) (S E : Nat → Nat) (V : Vf) (L : Lf) (t : Nat) : Prop := ∀ j, j < t → (V 13 j).toInt = (S j : Int) ∧ TC K f (S j) (E (j + 1)) (V 12 j).toInt (L 14 j)
def CT (V : Vf) (L : Lf) (A : Vf) (B : Lf) : Prop := ∃ S E : Nat → Nat, TKS (V 10) (V 6 5).toInt.toNat S E (A 6 7).toInt.toNat (A 6 6).toInt.toNat ∧ CTK L (V 10) S E A B (A 6 7).toInt.toNat
theorem CT.z {V A : Vf} {L B : Lf} (h1 : (A 6 7).toInt = 0) (h2 : (A 6 6).toInt = 0) : CT V L A B := by
  unfold CT
  rw [h1, h2]
  exact ⟨fun _ => 0, fun _ => 0, ⟨rfl, fun j hj => absurd hj (Nat.not_lt_zero _), Nat.le_refl _, Nat.zero_le _, fun k _ b => absurd b (Nat.not_lt_zero _)⟩, fun j hj => absurd hj (Nat.not_lt_zero _)⟩
theorem CT.bl {V A A' : Vf} {L B : Lf} {z : Int32} (h : CT V L A B) (e : A' = up2 A 6 6 z) (hz : z.toInt = (A 6 6).toInt + 1) (h0 : 0 ≤ (A 6 6).toInt) (hl : (A 6 6).toInt < (V 6 5).toInt) (b : isBl (V 10 (A 6 6).toInt.toNat)) : CT V L A' B := by
  obtain ⟨S, E, k1, k2⟩ := h
  have e7 : A' 6 7 = A 6 7 := up2_k e (by decide)
  have e6 : A' 6 6 = z := up2_s e
  refine ⟨S, E, ?_, ?_⟩
  · rw [e7, e6, hz, show ((A 6 6).toInt + 1).toNat = (A 6 6).toInt.toNat + 1 from by omega]
    exact k1.bl (by omega) b
  · rw [e7]
    intro j hj
    rw [(up2_fo e (by decide) : A' 13 = A 13), (up2_fo e (by decide) : A' 12 = A 12)]
    exact k2 j hj
theorem CT.tk {V A W : Vf} {L B M : Lf} {t : Nat} (h : CT V L A B) (c : CUT A W B M (A 6 6).toInt.toNat t) (ht : t = (A 6 7).toInt.toNat) (hw : (W 6 7).toInt = (A 6 7).toInt + 1) (h0 : 0 ≤ (A 6 7).toInt) (e10 : A 10 = V 10) (e5 : A 6 5 = V 6 5) (e11 : B 11 = L 11) (b : ¬ isBl (V 10 (A 6 6).toInt.toNat)) : CT V L W M := by
  obtain ⟨S, E, k1, k2⟩ := h
  obtain ⟨e, c1, c2, c3, c4, c5⟩ := c
  rw [e10, e5] at c1
  rw [e10] at c4
  subst ht
  refine ⟨upN S (A 6 7).toInt.toNat (A 6 6).toInt.toNat, upN E ((A 6 7).toInt.toNat + 1) e, ?_, ?_⟩
  · rw [hw, c2, show ((A 6 7).toInt + 1).toNat = (A 6 7).toInt.toNat + 1 from by omega, Int.toNat_natCast]
    exact k1.tk b c1
  · rw [hw, show ((A 6 7).toInt + 1).toNat = (A 6 7).toInt.toNat + 1 from by omega]
    intro j hj
    by_cases q : j = (A 6 7).toInt.toNat
    · rw [q, upN_s, upN_s]
      exact ⟨c3, c4.ex e11⟩
    · rw [upN_o _ _ _ q, upN_o _ _ _ (by omega), (c5 j q).1, (c5 j q).2.1, (c5 j q).2.2]
      exact k2 j (by omega)
theorem upL_s {L M : Lf} {c k : Nat} {v : Int64} (h : M = upL L c k v) : M c k = v := by
  rw [h]
  unfold upL vp_updL
  rw [if_pos rfl, if_pos rfl]
theorem upL_o {L M : Lf} {c k c' : Nat} {v : Int64} (h : M = upL L c k v) (hc : c' ≠ c) : M c' = L c' := by
  rw [h]
  unfold upL
  rw [if_neg hc]
/-- the token at hand is number c -/
def CUR (W : Vf) (M : Lf) (c : Nat) : Prop := (c : Int) ≤ (W 6 7).toInt ∧ W 6 9 = W 12 c ∧ W 6 10 = W 13 c ∧ M 6 11 = M 14 c ∧ (W 6 8).toInt = (if (c : Int) < (W 6 7).toInt then (c : Int) + 1 else (c : Int))
/-- all tokens are cut, the first is at hand -/
def CTE (V : Vf) (L : Lf) (W : Vf) (M : Lf) : Prop := CT V L W M ∧ (W 6 6).toInt = (V 6 5).toInt ∧ W 12 (W 6 7).toInt.toNat = 0 ∧ W 13 (W 6 7).toInt.toNat = V 6 5 ∧ CUR W M 0
theorem CT.fin {V A W : Vf} {L B M : Lf} (h : CT V L A B) (w7 : W 6 7 = A 6 7) (w6 : W 6 6 = A 6 6) (o : ∀ k, k ≠ (A 6 7).toInt.toNat → W 12 k = A 12 k ∧ W 13 k = A 13 k ∧ M 14 k = B 14 k) : CT V L W M := by
  obtain ⟨S, E, k1, k2⟩ := h
  refine ⟨S, E, by rw [w7, w6]; exact k1, ?_⟩
  rw [w7]
  intro j hj
  have z := o j (by omega)
  rw [z.1, z.2.1, z.2.2]
  exact k2 j hj
theorem CTE.mk {V A A1 A2 W : Vf} {L B B1 M : Lf} {t : Nat} {z : Int32} (h : CT V L A B) (h1 : A1 = up2 A 12 t 0) (h2 : A2 = up2 A1 13 t z) (hL : B1 = upL B 14 t 0) (w12 : W 12 = A2 12) (w13 : W 13 = A2 13) (m14 : M 14 = B1 14) (w7 : W 6 7 = A 6 7) (w6 : W 6 6 = A 6 6) (hz : z = V 6 5) (ht : t = (A 6 7).toInt.toNat) (hp : (A 6 6).toInt = (V 6 5).toInt) (cu : CUR W M 0) : CTE V L W M := by
  have f12 : W 12 = upd (A 12) t 0 := by rw [w12, (up2_fo h2 (by decide) : A2 12 = A1 12), up2_fn h1]
  have f13 : W 13 = upd (A 13) t z := by rw [w13, up2_fn h2, (up2_fo h1 (by decide) : A1 13 = A 13)]
  subst ht
  refine ⟨h.fin w7 w6 (fun k hk => ⟨by rw [f12]; exact if_neg hk, by rw [f13]; exact if_neg hk, by rw [m14]; exact (upL_14 hL).2 k hk⟩), by rw [w6]; exact hp, ?_, ?_, cu⟩
  · rw [w7, f12]
    exact if_pos rfl
  · rw [w7, f13, ← hz]
    exact if_pos rfl


abbrev r_x_cut2 : Room := { frames := 4, cells := 0, slots := 0, locals := 91 }
abbrev q_x_cut2 (D : va_G) (ks : KS) (ad : Nat → Nat) (kk : Nat → ClassId) (V : Vf) (L : Lf) (Z : XZ) (gs : Nat) (A : Nat → Prop) : Array Value → State → Outcome → State → Prop := va_Qv (fun (u : Vf × Lf) => rgd bX u.1 ∧ agr [(6, 6), (6, 7)] [12, 13, 14] V u.1 ∧ agL [14] L u.2 ∧ ((u.1 6 6).toInt ≤ (u.1 6 5).toInt) ∧ ((u.1 6 7).toInt = (V 6 7).toInt + 1) ∧ (CUT V u.1 L u.2 gs (Int32.toNatClampNeg (V 6 7))) ∧ ((V 6 6).toInt + 1 ≤ (u.1 6 6).toInt)) (fun u t => gq D A (xw ad kk u.1 u.2 Z) (xty kk Z) t) A
set_option maxHeartbeats 4000000 in
set_option maxRecDepth 100000 in
theorem x_cut2 (l : Launch) (D : va_G) (ks : KS) (sz : Nat) (ad : Nat → Nat) (kk : Nat → ClassId) (V : Vf) (L : Lf) (Z : XZ) (gs : Nat) (hMV : rgd bX V) (rp1 : (V 6 6).toInt < (V 6 5).toInt) (rp2 : (V 6 7).toInt ≤ 3999) (rp3 : (V 6 6).toInt = (gs : Int)) (rp4 : isTp (V 10 gs))  : Met l yX9_cut (Cond.code yX9_cut cX9_cut 2 none :: GW) r_x_cut2 (va_Pc [.ref (ad 6)] (gp D ks (xw ad kk V L Z) (xty kk Z) sz)) (q_x_cut2 D ks ad kk V L Z  gs (va_A (xw ad kk V L Z) sz)) 0 0 (va_A (xw ad kk V L Z) sz) := by
  refine g_met (q_x_cut2 D ks ad kk V L Z  gs) (by decide) (Nat.le_of_ble_eq_true rfl) ?_
  intro p e s m below meth c A ls H locs hx hb hr hml hown hg hlocks hin hnw hgk hP hK hD hS hA hl
  have hown : s.vm.findClass RX9 = some m.cls := hown
  have hl : lv_has ls 2 [(0, .ref (ad 6))] := hl
  have hP : va_P D vwCl (xw ad kk V L Z) H := hP
  have hD : va_D A (xw ad kk V L Z) := hD
  have hK : va_K D vwCl (xty kk Z) s := hK
  have agV : agr [(6, 6), (6, 7)] [12, 13, 14] V V := agr.rf
  have alL : agL [14] L L := agL.rf
  have r1 : 0 ≤ ((V 6 5)).toInt ∧ ((V 6 5)).toInt ≤ 4000 := hMV 6 5
  have r2 : 0 ≤ ((V 6 6)).toInt ∧ ((V 6 6)).toInt ≤ 4000 := hMV 6 6
  have r3 : 0 ≤ ((V 6 7)).toInt ∧ ((V 6 7)).toInt ≤ 4000 := hMV 6 7
  refine lv_aload_n hx hb dX9_cut_0 rfl (lv_at hl 0 rfl) ?_
  refine va_get (D := D) (ci := 9) (v := .ref (ad 7)) (fs := (xfTape ad V L Z)) (C := RX9) (T := TX9) (N := 12) hx hb hg inX9 hown hK hP 6 xgTape rfl 0 (by decide) (hg _ w252) (fun _ h9 => h9) rfl dX9_cut_1 ?_
  refine lv_aload_n hx hb dX9_cut_4 rfl (lv_at hl 0 rfl) ?_
  refine va_get (D := D) (ci := 9) (v := .int (V 6 6)) (fs := (xfTape ad V L Z)) (C := RX9) (T := TX9) (N := 12) hx hb hg inX9 hown hK hP 6 xgTape rfl 6 (by decide) (hg _ w259) (fun _ h9 => h9) rfl dX9_cut_5 ?_
  refine va_bald (D := D) (i := (V 6 6)) hx hb hK hP 7 0 rfl rfl (i_in (a := ((V 6 6)).toInt) rfl (by first | exact om_22b8d629e40e rp1 r1.2 r2.1 | first | omega | ((try (have i_rp4 := Imp.go rp4 (by omega))); omega))) dX9_cut_8 ?_
  have eg : Int32.toNatClampNeg (V 6 6) = gs := by have q9 := i_clamp (x := V 6 6) rfl (by (first | exact om_eafa9039069c r2.1 | omega)); (first | exact om_c4e1e142d663 rp3 q9 | omega)
  have hx9 : 0 ≤ (V 10 (Int32.toNatClampNeg (V 6 6))).toInt ∧ (V 10 (Int32.toNatClampNeg (V 6 6))).toInt ≤ 126 := by rw [eg]; exact rp4.elim (fun q => by omega) (fun q => by omega)
  refine lv_istore_n (lv' := [(1, .int (V 10 (Int32.toNatClampNeg (V 6 6)))), (0, .ref (ad 6))]) hx hb dX9_cut_9 rfl hl (by decide) rfl (fun ls hl => ?_)
  refine lv_aload_n hx hb dX9_cut_10 rfl (lv_at hl 1 rfl) ?_
  refine va_get (D := D) (ci := 9) (v := .ref (ad 10)) (fs := (xfTape ad V L Z)) (C := RX9) (T := TX9) (N := 12) hx hb hg inX9 hown hK hP 6 xgTape rfl 3 (by decide) (hg _ w255) (fun _ h9 => h9) rfl dX9_cut_11 ?_
  refine lv_aload_n hx hb dX9_cut_14 rfl (lv_at hl 1 rfl) ?_
  refine va_get (D := D) (ci := 9) (v := .int (V 6 7)) (fs := (xfTape ad V L Z)) (C := RX9) (T := TX9) (N := 12) hx hb hg inX9 hown hK hP 6 xgTape rfl 7 (by decide) (hg _ w260) (fun _ h9 => h9) rfl dX9_cut_15 ?_
  refine lv_aload_n hx hb dX9_cut_18 rfl (lv_at hl 1 rfl) ?_
  refine va_get (D := D) (ci := 9) (v := .int (V 6 6)) (fs := (xfTape ad V L Z)) (C := RX9) (T := TX9) (N := 12) hx hb hg inX9 hown hK hP 6 xgTape rfl 6 (by decide) (hg _ w259) (fun _ h9 => h9) rfl dX9_cut_19 ?_
  refine va_iast (D := D) (i := (V 6 7)) (x := (V 6 6)) hx hb hK hP hD hS 10 3 rfl rfl (i_in (a := ((V 6 7)).toInt) rfl (by first | exact om_1452076f4170 rp2 r3.1 | first | omega | ((try (have i_rp4 := Imp.go rp4 (by omega))); omega))) dX9_cut_22 (fun H locs hP hD hS => ?_)
  obtain ⟨V4, hV4⟩ : ∃ z, z = up2 V 13 (Int32.toNatClampNeg (V 6 7)) (V 6 6) := ⟨_, rfl⟩
  have ew5 : (xw ad kk V L Z).set 10 ((ad 10), .inl ((kk 10), 4001, .inl (upd (V 13) (Int32.toNatClampNeg (V 6 7)) (V 6 6)))) = xw ad kk V4 L Z := by rw [hV4]; exact xw_ss (by decide) rfl (xb_si (by decide))
  have hP : va_P D vwCl (xw ad kk V4 L Z) H := by rw [← ew5]; exact hP
  have hD : va_D A (xw ad kk V4 L Z) := by rw [← ew5]; exact hD
  have hMV4 : rgd bX V4 := hMV.put hV4 (show 0 ≤ ((V 6 6)).toInt ∧ ((V 6 6)).toInt ≤ 4000 from by first | exact om_17779d3d27a1 rp1 r1.2 r2.1 | first | omega | ((try (have i_rp4 := Imp.go rp4 (by omega))); omega))
  have agV4 : agr [(6, 6), (6, 7)] [12, 13, 14] V V4 := agV.up hV4 rfl
  refine lv_aload_n hx hb dX9_cut_23 rfl (lv_at hl 1 rfl) ?_
  refine va_get (D := D) (ci := 9) (v := .ref (ad 11)) (fs := (xfTape ad V4 L Z)) (C := RX9) (T := TX9) (N := 12) hx hb hg inX9 hown hK hP 6 xgTape rfl 4 (by decide) (hg _ w256) (fun _ h9 => h9) rfl dX9_cut_24 ?_
  refine lv_aload_n hx hb dX9_cut_27 rfl (lv_at hl 1 rfl) ?_
  refine va_get (D := D) (ci := 9) (v := .int (V4 6 7)) (fs := (xfTape ad V4 L Z)) (C := RX9) (T := TX9) (N := 12) hx hb hg inX9 hown hK hP 6 xgTape rfl 7 (by decide) (hg _ w260) (fun _ h9 => h9) rfl dX9_cut_28 ?_
  refine g_top (v := (V 6 7)) (up2_o hV4 (by decide)) ?_
  refine lv_lconst (v := 0) hx hb dX9_cut_31 (by decide) ?_
  refine va_last (D := D) (i := (V 6 7)) (x := 0) hx hb hK hP hD hS 11 4 rfl rfl (i_in (a := ((V 6 7)).toInt) rfl (by first | exact om_1452076f4170 rp2 r3.1 | first | omega | ((try (have i_rp4 := Imp.go rp4 (by omega))); omega))) dX9_cut_32 (fun H locs hP hD hS => ?_)
  obtain ⟨L6, hL6⟩ : ∃ z, z = upL L 14 (Int32.toNatClampNeg (V 6 7)) 0 := ⟨_, rfl⟩
  have ew7 : (xw ad kk V4 L Z).set 11 ((ad 11), .inl ((kk 11), 4001, .inr (.inl (vp_updL (L 14) (Int32.toNatClampNeg (V 6 7)) 0)))) = xw ad kk V4 L6 Z := by rw [hL6]; exact xw_ss (by decide) rfl (fun j => xe_L (fun a => absurd a.1 (by decide)))
  have hP : va_P D vwCl (xw ad kk V4 L6 Z) H := by rw [← ew7]; exact hP
  have hD : va_D A (xw ad kk V4 L6 Z) := by rw [← ew7]; exact hD
  have alL6 : agL [14] L L6 := agL.up alL hL6 rfl
  refine lv_iload_n hx hb dX9_cut_33 rfl (lv_at hl 0 rfl) ?_
  refine gE_int (g_runS (As := [.int (V 10 (Int32.toNatClampNeg (V 6 6)))]) (rest := []) (wc := []) (tc := []) hx hb hml hown hg gw_self hP hD hK hS hA hnw hgk [] [] (by decide) rfl rfl (x_isDigit2 l D ks H.size (V 10 (Int32.toNatClampNeg (V 6 6))) ) w249 w250 w157 w251 hdS_yX9_isDigit ⟨Nat.le_of_ble_eq_true rfl, Nat.le_of_ble_eq_true rfl⟩ rfl hl.1 rfl (Nat.le_of_ble_eq_true rfl) dX9_cut_34 ⟨Nat.le_of_ble_eq_true rfl, Nat.le_of_ble_eq_true rfl⟩) hP hD hK hS hA (fun z8 u9 H locs w10 hP hD hK hS => ?_)
  obtain ⟨rgz8, t11, t12⟩ := w10
  have rgz8 : 0 ≤ z8.toInt ∧ z8.toInt ≤ 1 := rgz8
  have t11 : Imp (z8.toInt = 1) (48 ≤ ((V 10 (Int32.toNatClampNeg (V 6 6)))).toInt ∧ ((V 10 (Int32.toNatClampNeg (V 6 6)))).toInt ≤ 57) := t11
  have t12 : Imp (z8.toInt = 0) (((V 10 (Int32.toNatClampNeg (V 6 6)))).toInt < 48 ∨ 57 < ((V 10 (Int32.toNatClampNeg (V 6 6)))).toInt) := t12
  refine lv_if_eq (tgt := 47) hx hb dX9_cut_37 (by decide) (fun c13 => ?_) (fun c13 => ?_)
  · skip
    have f14 : z8.toInt = 0 := b_eq rfl (by decide) c13
    refine lv_iload_n hx hb dX9_cut_47 rfl (lv_at hl 0 rfl) ?_
    refine gE_int (g_runS (As := [.int (V 10 (Int32.toNatClampNeg (V 6 6)))]) (rest := []) (wc := []) (tc := []) hx hb hml hown hg gw_self hP hD hK hS hA hnw hgk [] [] (by decide) rfl rfl (x_isLetter2 l D ks H.size (V 10 (Int32.toNatClampNeg (V 6 6))) ) w780 w781 w157 w782 hdS_yX9_isLetter ⟨Nat.le_of_ble_eq_true rfl, Nat.le_of_ble_eq_true rfl⟩ rfl hl.1 rfl (Nat.le_of_ble_eq_true rfl) dX9_cut_48 ⟨Nat.le_of_ble_eq_true rfl, Nat.le_of_ble_eq_true rfl⟩) hP hD hK hS hA (fun z15 u16 H locs w17 hP hD hK hS => ?_)
    obtain ⟨rgz15, t18, t19⟩ := w17
    have rgz15 : 0 ≤ z15.toInt ∧ z15.toInt ≤ 1 := rgz15
    have t18 : Imp (z15.toInt = 1) (97 ≤ ((V 10 (Int32.toNatClampNeg (V 6 6)))).toInt ∧ ((V 10 (Int32.toNatClampNeg (V 6 6)))).toInt ≤ 122) := t18
    have t19 : Imp (z15.toInt = 0) (((V 10 (Int32.toNatClampNeg (V 6 6)))).toInt < 97 ∨ 122 < ((V 10 (Int32.toNatClampNeg (V 6 6)))).toInt) := t19
    refine lv_if_eq (tgt := 61) hx hb dX9_cut_51 (by decide) (fun c20 => ?_) (fun c20 => ?_)
    · skip
      have f21 : z15.toInt = 0 := b_eq rfl (by decide) c20
      refine lv_aload_n hx hb dX9_cut_61 rfl (lv_at hl 1 rfl) ?_
      refine va_get (D := D) (ci := 9) (v := .ref (ad 9)) (fs := (xfTape ad V4 L6 Z)) (C := RX9) (T := TX9) (N := 12) hx hb hg inX9 hown hK hP 6 xgTape rfl 2 (by decide) (hg _ w254) (fun _ h9 => h9) rfl dX9_cut_62 ?_
      refine lv_aload_n hx hb dX9_cut_65 rfl (lv_at hl 1 rfl) ?_
      refine va_get (D := D) (ci := 9) (v := .int (V4 6 7)) (fs := (xfTape ad V4 L6 Z)) (C := RX9) (T := TX9) (N := 12) hx hb hg inX9 hown hK hP 6 xgTape rfl 7 (by decide) (hg _ w260) (fun _ h9 => h9) rfl dX9_cut_66 ?_
      refine g_top (v := (V 6 7)) (up2_o hV4 (by decide)) ?_
      refine va_ldcS hx hb hown hgk.2.2.2.2.2.2 dX9_cut_69 ?_
      refine lv_iload_n hx hb dX9_cut_71 rfl (lv_at hl 0 rfl) ?_
      refine lv_i2c hx hb dX9_cut_72 rfl ?_
      refine lv_topi (fun z22 ez22 => ?_)
      have hz9 : z22 = V 10 (Int32.toNatClampNeg (V 6 6)) := ez22.trans (tp_c hx9)
      refine gE_int (g_runW (As := [.int z22]) (rest := [.int (V 6 7), .ref (ad 9)]) (wc := []) (tc := []) (C := RJ0) hx hb hml hown hg gw_self hP hD hK hS hA hnw hgk [] [] (by decide) rfl rfl (c_sg_index2 l D ks H.size z22 (by rw [hz9]; exact hx9)) w792 w793 w794 w158 w795 (vk_recv (i := 0) hgk.2.2.2.2.2.1 (by decide) hS) hdV_yJ0_indexOf_0f7a4 ⟨Nat.le_of_ble_eq_true rfl, Nat.le_of_ble_eq_true rfl⟩ rfl hl.1 rfl (Nat.le_of_ble_eq_true rfl) dX9_cut_73 ⟨Nat.le_of_ble_eq_true rfl, Nat.le_of_ble_eq_true rfl⟩) hP hD hK hS hA (fun z23 u24 H locs w25 hP hD hK hS => ?_)
      have hsg : SGX (V 10 (Int32.toNatClampNeg (V 6 6))) z23 := by rw [← hz9]; exact w25
      refine lv_if_lt (tgt := 83) hx hb dX9_cut_76 (by decide) (fun c26 => ?_) (fun c26 => ?_)
      · skip
        have f27 : z23.toInt < 0 := b_lt rfl (by decide) c26
        refine lv_iconst (v := 1) hx hb dX9_cut_83 (by decide) ?_
        refine va_iast (D := D) (i := (V 6 7)) (x := 1) hx hb hK hP hD hS 9 2 rfl rfl (i_in (a := ((V 6 7)).toInt) rfl (by first | exact om_1452076f4170 rp2 r3.1 | first | omega | ((try (have i_t19 := Imp.go t19 (f21))); (try (have i_t12 := Imp.go t12 (f14))); omega) | ((try (have i_t19 := Imp.go t19 (by omega))); (try (have i_t18 := Imp.go t18 (by omega))); (try (have i_t12 := Imp.go t12 (by omega))); (try (have i_t11 := Imp.go t11 (by omega))); first | omega | ((try (have i_rp4 := Imp.go rp4 (by omega))); (try (have i_rp4 := Imp.go rp4 (by omega))); (try (have i_t11 := Imp.go t11 (by omega))); (try (have i_t12 := Imp.go t12 (by omega))); (try (have i_t18 := Imp.go t18 (by omega))); (try (have i_t19 := Imp.go t19 (by omega))); omega)))) dX9_cut_84 (fun H locs hP hD hS => ?_)
        obtain ⟨V28, hV28⟩ : ∃ z, z = up2 V4 12 (Int32.toNatClampNeg (V 6 7)) 1 := ⟨_, rfl⟩
        have ew29 : (xw ad kk V4 L6 Z).set 9 ((ad 9), .inl ((kk 9), 4001, .inl (upd (V4 12) (Int32.toNatClampNeg (V 6 7)) 1))) = xw ad kk V28 L6 Z := by rw [hV28]; exact xw_ss (by decide) rfl (xb_si (by decide))
        have hP : va_P D vwCl (xw ad kk V28 L6 Z) H := by rw [← ew29]; exact hP
        have hD : va_D A (xw ad kk V28 L6 Z) := by rw [← ew29]; exact hD
        have hMV28 : rgd bX V28 := hMV4.put hV28 (i_full _)
        have agV28 : agr [(6, 6), (6, 7)] [12, 13, 14] V V28 := agV4.up hV28 rfl
        refine lv_aload_n hx hb dX9_cut_85 rfl (lv_at hl 1 rfl) ?_
        refine lv_dup hx hb dX9_cut_86 rfl ?_
        refine va_get (D := D) (ci := 9) (v := .int (V28 6 6)) (fs := (xfTape ad V28 L6 Z)) (C := RX9) (T := TX9) (N := 12) hx hb hg inX9 hown hK hP 6 xgTape rfl 6 (by decide) (hg _ w259) (fun _ h9 => h9) rfl dX9_cut_87 ?_
        refine g_top (v := (V 6 6)) ((up2_o hV28 (by decide)).trans (up2_o hV4 (by decide))) ?_
        refine lv_iconst (v := 1) hx hb dX9_cut_90 (by decide) ?_
        refine lv_iadd hx hb dX9_cut_91 ?_
        refine lv_topi (fun z30 ez30 => ?_)
        have hz30 : z30.toInt = ((V 6 6)).toInt + 1 := i_add ez30 rfl (by decide) (by (first | exact om_f4a62807000a rp1 r1.2 r2.1 | omega))
        refine va_put (D := D) (ci := 9) (v := .int z30) (ty := tyX9 6) (fs := (xfTape ad V28 L6 Z)) (C := RX9) (T := TX9) (N := 12) hx hb hg inX9 tyX9 tyX9_ok nmX9 hown hK hP hD hS 6 xgTape rfl 6 (by decide) (hg _ w259) (fun _ h9 => h9) rfl (tyX9_ok 6 (by decide)) rfl rfl (Nat.le_of_ble_eq_true rfl) dX9_cut_92 (fun H locs hP hD hS => ?_)
        obtain ⟨V31, hV31⟩ : ∃ z, z = up2 V28 6 6 z30 := ⟨_, rfl⟩
        have ew32 : (xw ad kk V28 L6 Z).set 6 ((ad 6), .inr (9, (xfTape ad V28 L6 Z).set 6 (.int z30))) = xw ad kk V31 L6 Z := by rw [hV31]; exact xw_ss (by decide) rfl (xb_si (by decide))
        have hP : va_P D vwCl (xw ad kk V31 L6 Z) H := by rw [← ew32]; exact hP
        have hD : va_D A (xw ad kk V31 L6 Z) := by rw [← ew32]; exact hD
        have hMV31 : rgd bX V31 := hMV28.put hV31 (show 0 ≤ z30.toInt ∧ z30.toInt ≤ 4000 from by first | exact om_79968e91715f rp1 r1.2 r2.1 hz30 | first | omega | ((try (have i_t19 := Imp.go t19 (f21))); (try (have i_t12 := Imp.go t12 (f14))); omega) | ((try (have i_t19 := Imp.go t19 (by omega))); (try (have i_t18 := Imp.go t18 (by omega))); (try (have i_t12 := Imp.go t12 (by omega))); (try (have i_t11 := Imp.go t11 (by omega))); first | omega | ((try (have i_rp4 := Imp.go rp4 (by omega))); (try (have i_rp4 := Imp.go rp4 (by omega))); (try (have i_t11 := Imp.go t11 (by omega))); (try (have i_t12 := Imp.go t12 (by omega))); (try (have i_t18 := Imp.go t18 (by omega))); (try (have i_t19 := Imp.go t19 (by omega))); omega)))
        have agV31 : agr [(6, 6), (6, 7)] [12, 13, 14] V V31 := agV28.up hV31 rfl
        refine lv_aload_n hx hb dX9_cut_95 rfl (lv_at hl 1 rfl) ?_
        refine lv_dup hx hb dX9_cut_96 rfl ?_
        refine va_get (D := D) (ci := 9) (v := .int (V31 6 7)) (fs := (xfTape ad V31 L6 Z)) (C := RX9) (T := TX9) (N := 12) hx hb hg inX9 hown hK hP 6 xgTape rfl 7 (by decide) (hg _ w260) (fun _ h9 => h9) rfl dX9_cut_97 ?_
        refine g_top (v := (V 6 7)) ((up2_k hV31 (by decide)).trans ((up2_o hV28 (by decide)).trans (up2_o hV4 (by decide)))) ?_
        refine lv_iconst (v := 1) hx hb dX9_cut_100 (by decide) ?_
        refine lv_iadd hx hb dX9_cut_101 ?_
        refine lv_topi (fun z33 ez33 => ?_)
        have hz33 : z33.toInt = ((V 6 7)).toInt + 1 := i_add ez33 rfl (by decide) (by (first | exact om_8e750d289af3 rp2 r3.1 | omega))
        refine va_put (D := D) (ci := 9) (v := .int z33) (ty := tyX9 7) (fs := (xfTape ad V31 L6 Z)) (C := RX9) (T := TX9) (N := 12) hx hb hg inX9 tyX9 tyX9_ok nmX9 hown hK hP hD hS 6 xgTape rfl 7 (by decide) (hg _ w260) (fun _ h9 => h9) rfl (tyX9_ok 7 (by decide)) rfl rfl (Nat.le_of_ble_eq_true rfl) dX9_cut_102 (fun H locs hP hD hS => ?_)
        obtain ⟨V34, hV34⟩ : ∃ z, z = up2 V31 6 7 z33 := ⟨_, rfl⟩
        have ew35 : (xw ad kk V31 L6 Z).set 6 ((ad 6), .inr (9, (xfTape ad V31 L6 Z).set 7 (.int z33))) = xw ad kk V34 L6 Z := by rw [hV34]; exact xw_ss (by decide) rfl (xb_si (by decide))
        have hP : va_P D vwCl (xw ad kk V34 L6 Z) H := by rw [← ew35]; exact hP
        have hD : va_D A (xw ad kk V34 L6 Z) := by rw [← ew35]; exact hD
        have hMV34 : rgd bX V34 := hMV31.put hV34 (show 0 ≤ z33.toInt ∧ z33.toInt ≤ 4000 from by first | exact om_71db763616c9 rp2 r3.1 hz33 | first | omega | ((try (have i_t19 := Imp.go t19 (f21))); (try (have i_t12 := Imp.go t12 (f14))); omega) | ((try (have i_t19 := Imp.go t19 (by omega))); (try (have i_t18 := Imp.go t18 (by omega))); (try (have i_t12 := Imp.go t12 (by omega))); (try (have i_t11 := Imp.go t11 (by omega))); first | omega | ((try (have i_rp4 := Imp.go rp4 (by omega))); (try (have i_rp4 := Imp.go rp4 (by omega))); (try (have i_t11 := Imp.go t11 (by omega))); (try (have i_t12 := Imp.go t12 (by omega))); (try (have i_t18 := Imp.go t18 (by omega))); (try (have i_t19 := Imp.go t19 (by omega))); omega)))
        have agV34 : agr [(6, 6), (6, 7)] [12, 13, 14] V V34 := agV31.up hV34 rfl
        have pq36 : (V34 6 5).toInt = ((V 6 5)).toInt := congrArg Int32.toInt ((up2_k hV34 (by decide)).trans ((up2_k hV31 (by decide)).trans ((up2_o hV28 (by decide)).trans (up2_o hV4 (by decide)))))
        have pq37 : (V34 6 6).toInt = z30.toInt := congrArg Int32.toInt ((up2_k hV34 (by decide)).trans (up2_s hV31))
        have pq38 : (V34 6 7).toInt = z33.toInt := congrArg Int32.toInt (up2_s hV34)
        have rp39 : CUT V V34 L L6 gs (Int32.toNatClampNeg (V 6 7)) := CUT.sg hV4 (by omega) hL6 hV28 (by rw [(up2_fo hV34 (by decide) : V34 12 = V31 12), (up2_fo hV31 (by decide) : V31 12 = V28 12)] : V34 12 = V28 12) (by rw [(up2_fo hV34 (by decide) : V34 13 = V31 13), (up2_fo hV31 (by decide) : V31 13 = V28 13)] : V34 13 = V28 13) (by first | omega | ((try (have i_t19 := Imp.go t19 (f21))); (try (have i_t12 := Imp.go t12 (f14))); omega) | ((try (have i_t19 := Imp.go t19 (by omega))); (try (have i_t18 := Imp.go t18 (by omega))); (try (have i_t12 := Imp.go t12 (by omega))); (try (have i_t11 := Imp.go t11 (by omega))); first | omega | ((try (have i_rp4 := Imp.go rp4 (by omega))); (try (have i_rp4 := Imp.go rp4 (by omega))); (try (have i_t11 := Imp.go t11 (by omega))); (try (have i_t12 := Imp.go t12 (by omega))); (try (have i_t18 := Imp.go t18 (by omega))); (try (have i_t19 := Imp.go t19 (by omega))); omega))) (fun q => by rw [← eg] at q; have q1 := q.1; have q2 := q.2; have z := Imp.go t12 (by (first | exact om_b1799fcf2d63 rgz8.1 f14 | omega)); omega) (fun q => by rw [← eg] at q; have q1 := q.1; have q2 := q.2; have z := Imp.go t19 (by (first | exact om_b1799fcf2d63 rgz15.1 f21 | omega)); omega) (by omega) (Or.inr ⟨by rw [← eg]; exact sg_n hsg hx9 (by omega), rfl⟩)
        exact W.vret hx hb hr (fun t ht hW => ⟨⟨(V34, L6), rfl, ⟨hMV34, agV34, alL6, (show (V34 6 6).toInt ≤ (V34 6 5).toInt from by first | exact om_1257dc0753d6 rp1 hz30 pq36 pq37 | first | omega | ((try (have i_t19 := Imp.go t19 (f21))); (try (have i_t12 := Imp.go t12 (f14))); omega) | ((try (have i_t19 := Imp.go t19 (by omega))); (try (have i_t18 := Imp.go t18 (by omega))); (try (have i_t12 := Imp.go t12 (by omega))); (try (have i_t11 := Imp.go t11 (by omega))); first | omega | ((try (have i_rp4 := Imp.go rp4 (by omega))); (try (have i_rp4 := Imp.go rp4 (by omega))); (try (have i_t11 := Imp.go t11 (by omega))); (try (have i_t12 := Imp.go t12 (by omega))); (try (have i_t18 := Imp.go t18 (by omega))); (try (have i_t19 := Imp.go t19 (by omega))); omega))), (show (V34 6 7).toInt = (V 6 7).toInt + 1 from by first | exact om_689eeacb6d53 hz33 pq38 | first | omega | ((try (have i_t19 := Imp.go t19 (f21))); (try (have i_t12 := Imp.go t12 (f14))); omega) | ((try (have i_t19 := Imp.go t19 (by omega))); (try (have i_t18 := Imp.go t18 (by omega))); (try (have i_t12 := Imp.go t12 (by omega))); (try (have i_t11 := Imp.go t11 (by omega))); first | omega | ((try (have i_rp4 := Imp.go rp4 (by omega))); (try (have i_rp4 := Imp.go rp4 (by omega))); (try (have i_t11 := Imp.go t11 (by omega))); (try (have i_t12 := Imp.go t12 (by omega))); (try (have i_t18 := Imp.go t18 (by omega))); (try (have i_t19 := Imp.go t19 (by omega))); omega))), rp39, (show (V 6 6).toInt + 1 ≤ (V34 6 6).toInt from by first | exact om_1f8d46bc165b hz30 pq37 | first | omega | ((try (have i_t19 := Imp.go t19 (f21))); (try (have i_t12 := Imp.go t12 (f14))); omega) | ((try (have i_t19 := Imp.go t19 (by omega))); (try (have i_t18 := Imp.go t18 (by omega))); (try (have i_t12 := Imp.go t12 (by omega))); (try (have i_t11 := Imp.go t11 (by omega))); first | omega | ((try (have i_rp4 := Imp.go rp4 (by omega))); (try (have i_rp4 := Imp.go rp4 (by omega))); (try (have i_t11 := Imp.go t11 (by omega))); (try (have i_t12 := Imp.go t12 (by omega))); (try (have i_t18 := Imp.go t18 (by omega))); (try (have i_t19 := Imp.go t19 (by omega))); omega)))⟩, by rw [ht]; exact hP, va_K.moved hW.alike hK, hD⟩, hS.F ht⟩) hS.2.2 dX9_cut_105
      · skip
        have f40 : 0 ≤ z23.toInt := b_nlt rfl (by decide) c26
        refine lv_iload_n hx hb dX9_cut_79 rfl (lv_at hl 0 rfl) ?_
        refine lv_goto (tgt := 84) hx hb dX9_cut_80 (by decide) ?_
        refine va_iast (D := D) (i := (V 6 7)) (x := (V 10 (Int32.toNatClampNeg (V 6 6)))) hx hb hK hP hD hS 9 2 rfl rfl (i_in (a := ((V 6 7)).toInt) rfl (by first | exact om_1452076f4170 rp2 r3.1 | first | omega | ((try (have i_t19 := Imp.go t19 (f21))); (try (have i_t12 := Imp.go t12 (f14))); omega) | ((try (have i_t19 := Imp.go t19 (by omega))); (try (have i_t18 := Imp.go t18 (by omega))); (try (have i_t12 := Imp.go t12 (by omega))); (try (have i_t11 := Imp.go t11 (by omega))); first | omega | ((try (have i_rp4 := Imp.go rp4 (by omega))); (try (have i_rp4 := Imp.go rp4 (by omega))); (try (have i_t11 := Imp.go t11 (by omega))); (try (have i_t12 := Imp.go t12 (by omega))); (try (have i_t18 := Imp.go t18 (by omega))); (try (have i_t19 := Imp.go t19 (by omega))); omega)))) dX9_cut_84 (fun H locs hP hD hS => ?_)
        obtain ⟨V41, hV41⟩ : ∃ z, z = up2 V4 12 (Int32.toNatClampNeg (V 6 7)) (V 10 (Int32.toNatClampNeg (V 6 6))) := ⟨_, rfl⟩
        have ew42 : (xw ad kk V4 L6 Z).set 9 ((ad 9), .inl ((kk 9), 4001, .inl (upd (V4 12) (Int32.toNatClampNeg (V 6 7)) (V 10 (Int32.toNatClampNeg (V 6 6)))))) = xw ad kk V41 L6 Z := by rw [hV41]; exact xw_ss (by decide) rfl (xb_si (by decide))
        have hP : va_P D vwCl (xw ad kk V41 L6 Z) H := by rw [← ew42]; exact hP
        have hD : va_D A (xw ad kk V41 L6 Z) := by rw [← ew42]; exact hD
        have hMV41 : rgd bX V41 := hMV4.put hV41 (i_full _)
        have agV41 : agr [(6, 6), (6, 7)] [12, 13, 14] V V41 := agV4.up hV41 rfl
        refine lv_aload_n hx hb dX9_cut_85 rfl (lv_at hl 1 rfl) ?_
        refine lv_dup hx hb dX9_cut_86 rfl ?_
        refine va_get (D := D) (ci := 9) (v := .int (V41 6 6)) (fs := (xfTape ad V41 L6 Z)) (C := RX9) (T := TX9) (N := 12) hx hb hg inX9 hown hK hP 6 xgTape rfl 6 (by decide) (hg _ w259) (fun _ h9 => h9) rfl dX9_cut_87 ?_
        refine g_top (v := (V 6 6)) ((up2_o hV41 (by decide)).trans (up2_o hV4 (by decide))) ?_
        refine lv_iconst (v := 1) hx hb dX9_cut_90 (by decide) ?_
        refine lv_iadd hx hb dX9_cut_91 ?_
        refine lv_topi (fun z43 ez43 => ?_)
        have hz43 : z43.toInt = ((V 6 6)).toInt + 1 := i_add ez43 rfl (by decide) (by (first | exact om_f4a62807000a rp1 r1.2 r2.1 | omega))
        refine va_put (D := D) (ci := 9) (v := .int z43) (ty := tyX9 6) (fs := (xfTape ad V41 L6 Z)) (C := RX9) (T := TX9) (N := 12) hx hb hg inX9 tyX9 tyX9_ok nmX9 hown hK hP hD hS 6 xgTape rfl 6 (by decide) (hg _ w259) (fun _ h9 => h9) rfl (tyX9_ok 6 (by decide)) rfl rfl (Nat.le_of_ble_eq_true rfl) dX9_cut_92 (fun H locs hP hD hS => ?_)
        obtain ⟨V44, hV44⟩ : ∃ z, z = up2 V41 6 6 z43 := ⟨_, rfl⟩
        have ew45 : (xw ad kk V41 L6 Z).set 6 ((ad 6), .inr (9, (xfTape ad V41 L6 Z).set 6 (.int z43))) = xw ad kk V44 L6 Z := by rw [hV44]; exact xw_ss (by decide) rfl (xb_si (by decide))
        have hP : va_P D vwCl (xw ad kk V44 L6 Z) H := by rw [← ew45]; exact hP
        have hD : va_D A (xw ad kk V44 L6 Z) := by rw [← ew45]; exact hD
        have hMV44 : rgd bX V44 := hMV41.put hV44 (show 0 ≤ z43.toInt ∧ z43.toInt ≤ 4000 from by first | exact om_79968e91715f rp1 r1.2 r2.1 hz43 | first | omega | ((try (have i_t19 := Imp.go t19 (f21))); (try (have i_t12 := Imp.go t12 (f14))); omega) | ((try (have i_t19 := Imp.go t19 (by omega))); (try (have i_t18 := Imp.go t18 (by omega))); (try (have i_t12 := Imp.go t12 (by omega))); (try (have i_t11 := Imp.go t11 (by omega))); first | omega | ((try (have i_rp4 := Imp.go rp4 (by omega))); (try (have i_rp4 := Imp.go rp4 (by omega))); (try (have i_t11 := Imp.go t11 (by omega))); (try (have i_t12 := Imp.go t12 (by omega))); (try (have i_t18 := Imp.go t18 (by omega))); (try (have i_t19 := Imp.go t19 (by omega))); omega)))
        have agV44 : agr [(6, 6), (6, 7)] [12, 13, 14] V V44 := agV41.up hV44 rfl
        refine lv_aload_n hx hb dX9_cut_95 rfl (lv_at hl 1 rfl) ?_
        refine lv_dup hx hb dX9_cut_96 rfl ?_
        refine va_get (D := D) (ci := 9) (v := .int (V44 6 7)) (fs := (xfTape ad V44 L6 Z)) (C := RX9) (T := TX9) (N := 12) hx hb hg inX9 hown hK hP 6 xgTape rfl 7 (by decide) (hg _ w260) (fun _ h9 => h9) rfl dX9_cut_97 ?_
        refine g_top (v := (V 6 7)) ((up2_k hV44 (by decide)).trans ((up2_o hV41 (by decide)).trans (up2_o hV4 (by decide)))) ?_
        refine lv_iconst (v := 1) hx hb dX9_cut_100 (by decide) ?_
        refine lv_iadd hx hb dX9_cut_101 ?_
        refine lv_topi (fun z46 ez46 => ?_)
        have hz46 : z46.toInt = ((V 6 7)).toInt + 1 := i_add ez46 rfl (by decide) (by (first | exact om_8e750d289af3 rp2 r3.1 | omega))
        refine va_put (D := D) (ci := 9) (v := .int z46) (ty := tyX9 7) (fs := (xfTape ad V44 L6 Z)) (C := RX9) (T := TX9) (N := 12) hx hb hg inX9 tyX9 tyX9_ok nmX9 hown hK hP hD hS 6 xgTape rfl 7 (by decide) (hg _ w260) (fun _ h9 => h9) rfl (tyX9_ok 7 (by decide)) rfl rfl (Nat.le_of_ble_eq_true rfl) dX9_cut_102 (fun H locs hP hD hS => ?_)
        obtain ⟨V47, hV47⟩ : ∃ z, z = up2 V44 6 7 z46 := ⟨_, rfl⟩
        have ew48 : (xw ad kk V44 L6 Z).set 6 ((ad 6), .inr (9, (xfTape ad V44 L6 Z).set 7 (.int z46))) = xw ad kk V47 L6 Z := by rw [hV47]; exact xw_ss (by decide) rfl (xb_si (by decide))
        have hP : va_P D vwCl (xw ad kk V47 L6 Z) H := by rw [← ew48]; exact hP
        have hD : va_D A (xw ad kk V47 L6 Z) := by rw [← ew48]; exact hD
        have hMV47 : rgd bX V47 := hMV44.put hV47 (show 0 ≤ z46.toInt ∧ z46.toInt ≤ 4000 from by first | exact om_71db763616c9 rp2 r3.1 hz46 | first | omega | ((try (have i_t19 := Imp.go t19 (f21))); (try (have i_t12 := Imp.go t12 (f14))); omega) | ((try (have i_t19 := Imp.go t19 (by omega))); (try (have i_t18 := Imp.go t18 (by omega))); (try (have i_t12 := Imp.go t12 (by omega))); (try (have i_t11 := Imp.go t11 (by omega))); first | omega | ((try (have i_rp4 := Imp.go rp4 (by omega))); (try (have i_rp4 := Imp.go rp4 (by omega))); (try (have i_t11 := Imp.go t11 (by omega))); (try (have i_t12 := Imp.go t12 (by omega))); (try (have i_t18 := Imp.go t18 (by omega))); (try (have i_t19 := Imp.go t19 (by omega))); omega)))
        have agV47 : agr [(6, 6), (6, 7)] [12, 13, 14] V V47 := agV44.up hV47 rfl
        have pq49 : (V47 6 5).toInt = ((V 6 5)).toInt := congrArg Int32.toInt ((up2_k hV47 (by decide)).trans ((up2_k hV44 (by decide)).trans ((up2_o hV41 (by decide)).trans (up2_o hV4 (by decide)))))
        have pq50 : (V47 6 6).toInt = z43.toInt := congrArg Int32.toInt ((up2_k hV47 (by decide)).trans (up2_s hV44))
        have pq51 : (V47 6 7).toInt = z46.toInt := congrArg Int32.toInt (up2_s hV47)
        have rp52 : CUT V V47 L L6 gs (Int32.toNatClampNeg (V 6 7)) := CUT.sg hV4 (by omega) hL6 hV41 (by rw [(up2_fo hV47 (by decide) : V47 12 = V44 12), (up2_fo hV44 (by decide) : V44 12 = V41 12)] : V47 12 = V41 12) (by rw [(up2_fo hV47 (by decide) : V47 13 = V44 13), (up2_fo hV44 (by decide) : V44 13 = V41 13)] : V47 13 = V41 13) (by first | omega | ((try (have i_t19 := Imp.go t19 (f21))); (try (have i_t12 := Imp.go t12 (f14))); omega) | ((try (have i_t19 := Imp.go t19 (by omega))); (try (have i_t18 := Imp.go t18 (by omega))); (try (have i_t12 := Imp.go t12 (by omega))); (try (have i_t11 := Imp.go t11 (by omega))); first | omega | ((try (have i_rp4 := Imp.go rp4 (by omega))); (try (have i_rp4 := Imp.go rp4 (by omega))); (try (have i_t11 := Imp.go t11 (by omega))); (try (have i_t12 := Imp.go t12 (by omega))); (try (have i_t18 := Imp.go t18 (by omega))); (try (have i_t19 := Imp.go t19 (by omega))); omega))) (fun q => by rw [← eg] at q; have q1 := q.1; have q2 := q.2; have z := Imp.go t12 (by (first | exact om_b1799fcf2d63 rgz8.1 f14 | omega)); omega) (fun q => by rw [← eg] at q; have q1 := q.1; have q2 := q.2; have z := Imp.go t19 (by (first | exact om_b1799fcf2d63 rgz15.1 f21 | omega)); omega) (by omega) (Or.inl ⟨by rw [← eg]; exact sg_y hsg hx9 (by omega), by rw [eg]⟩)
        exact W.vret hx hb hr (fun t ht hW => ⟨⟨(V47, L6), rfl, ⟨hMV47, agV47, alL6, (show (V47 6 6).toInt ≤ (V47 6 5).toInt from by first | exact om_1257dc0753d6 rp1 hz43 pq49 pq50 | first | omega | ((try (have i_t19 := Imp.go t19 (f21))); (try (have i_t12 := Imp.go t12 (f14))); omega) | ((try (have i_t19 := Imp.go t19 (by omega))); (try (have i_t18 := Imp.go t18 (by omega))); (try (have i_t12 := Imp.go t12 (by omega))); (try (have i_t11 := Imp.go t11 (by omega))); first | omega | ((try (have i_rp4 := Imp.go rp4 (by omega))); (try (have i_rp4 := Imp.go rp4 (by omega))); (try (have i_t11 := Imp.go t11 (by omega))); (try (have i_t12 := Imp.go t12 (by omega))); (try (have i_t18 := Imp.go t18 (by omega))); (try (have i_t19 := Imp.go t19 (by omega))); omega))), (show (V47 6 7).toInt = (V 6 7).toInt + 1 from by first | exact om_689eeacb6d53 hz46 pq51 | first | omega | ((try (have i_t19 := Imp.go t19 (f21))); (try (have i_t12 := Imp.go t12 (f14))); omega) | ((try (have i_t19 := Imp.go t19 (by omega))); (try (have i_t18 := Imp.go t18 (by omega))); (try (have i_t12 := Imp.go t12 (by omega))); (try (have i_t11 := Imp.go t11 (by omega))); first | omega | ((try (have i_rp4 := Imp.go rp4 (by omega))); (try (have i_rp4 := Imp.go rp4 (by omega))); (try (have i_t11 := Imp.go t11 (by omega))); (try (have i_t12 := Imp.go t12 (by omega))); (try (have i_t18 := Imp.go t18 (by omega))); (try (have i_t19 := Imp.go t19 (by omega))); omega))), rp52, (show (V 6 6).toInt + 1 ≤ (V47 6 6).toInt from by first | exact om_1f8d46bc165b hz43 pq50 | first | omega | ((try (have i_t19 := Imp.go t19 (f21))); (try (have i_t12 := Imp.go t12 (f14))); omega) | ((try (have i_t19 := Imp.go t19 (by omega))); (try (have i_t18 := Imp.go t18 (by omega))); (try (have i_t12 := Imp.go t12 (by omega))); (try (have i_t11 := Imp.go t11 (by omega))); first | omega | ((try (have i_rp4 := Imp.go rp4 (by omega))); (try (have i_rp4 := Imp.go rp4 (by omega))); (try (have i_t11 := Imp.go t11 (by omega))); (try (have i_t12 := Imp.go t12 (by omega))); (try (have i_t18 := Imp.go t18 (by omega))); (try (have i_t19 := Imp.go t19 (by omega))); omega)))⟩, by rw [ht]; exact hP, va_K.moved hW.alike hK, hD⟩, hS.F ht⟩) hS.2.2 dX9_cut_105
    · skip
      have f53 : z15.toInt ≠ 0 := b_neq rfl (by decide) c20
      refine lv_aload_n hx hb dX9_cut_54 rfl (lv_at hl 1 rfl) ?_
      have pq54 : (V4 6 5).toInt = ((V 6 5)).toInt := congrArg Int32.toInt (up2_o hV4 (by decide))
      have pq55 : (V4 6 6).toInt = ((V 6 6)).toInt := congrArg Int32.toInt (up2_o hV4 (by decide))
      have pq56 : (V4 6 7).toInt = ((V 6 7)).toInt := congrArg Int32.toInt (up2_o hV4 (by decide))
      refine gA_void (gA_runV (As := []) (rest := []) (ci := 9) (q0 := 6) hx hb hml hown hg hP hD hK hS hA hnw hgk (x_cutWord2 l D ks H.size ad kk V4 L6 Z (gs) hMV4 (show (V4 6 6).toInt < (V4 6 5).toInt from by first | exact om_3c0fce7f0866 rp1 pq54 pq55 | first | omega | ((try (have i_t18 := Imp.go t18 (imp_a (rgz15.1) (rgz15.2) (f53)))); (try (have i_t12 := Imp.go t12 (f14))); omega) | ((try (have i_t19 := Imp.go t19 (by omega))); (try (have i_t18 := Imp.go t18 (by omega))); (try (have i_t12 := Imp.go t12 (by omega))); (try (have i_t11 := Imp.go t11 (by omega))); first | omega | ((try (have i_rp4 := Imp.go rp4 (by omega))); (try (have i_rp4 := Imp.go rp4 (by omega))); (try (have i_t11 := Imp.go t11 (by omega))); (try (have i_t12 := Imp.go t12 (by omega))); (try (have i_t18 := Imp.go t18 (by omega))); (try (have i_t19 := Imp.go t19 (by omega))); omega))) (show (V4 6 7).toInt ≤ 3999 from by first | exact om_cca9797ede8c rp2 pq56 | first | omega | ((try (have i_t18 := Imp.go t18 (imp_a (rgz15.1) (rgz15.2) (f53)))); (try (have i_t12 := Imp.go t12 (f14))); omega) | ((try (have i_t19 := Imp.go t19 (by omega))); (try (have i_t18 := Imp.go t18 (by omega))); (try (have i_t12 := Imp.go t12 (by omega))); (try (have i_t11 := Imp.go t11 (by omega))); first | omega | ((try (have i_rp4 := Imp.go rp4 (by omega))); (try (have i_rp4 := Imp.go rp4 (by omega))); (try (have i_t11 := Imp.go t11 (by omega))); (try (have i_t12 := Imp.go t12 (by omega))); (try (have i_t18 := Imp.go t18 (by omega))); (try (have i_t19 := Imp.go t19 (by omega))); omega))) (show (V4 6 6).toInt = (gs : Int) from by first | exact om_adf531c77a0d rp3 pq55 | first | omega | ((try (have i_t18 := Imp.go t18 (imp_a (rgz15.1) (rgz15.2) (f53)))); (try (have i_t12 := Imp.go t12 (f14))); omega) | ((try (have i_t19 := Imp.go t19 (by omega))); (try (have i_t18 := Imp.go t18 (by omega))); (try (have i_t12 := Imp.go t12 (by omega))); (try (have i_t11 := Imp.go t11 (by omega))); first | omega | ((try (have i_rp4 := Imp.go rp4 (by omega))); (try (have i_rp4 := Imp.go rp4 (by omega))); (try (have i_t11 := Imp.go t11 (by omega))); (try (have i_t12 := Imp.go t12 (by omega))); (try (have i_t18 := Imp.go t18 (by omega))); (try (have i_t19 := Imp.go t19 (by omega))); omega))) (by rw [(up2_fo hV4 (by decide) : V4 10 = V 10), ← eg]; exact Imp.go t18 (by (first | exact om_2ebe32d50835 rgz15.1 rgz15.2 f53 | omega)))) w783 w785 w2 w157 w786 rfl xgTape hdV_yX9_cutWord ⟨Nat.le_of_ble_eq_true rfl, Nat.le_of_ble_eq_true rfl⟩ rfl hl.1 rfl (Nat.le_of_ble_eq_true rfl) dX9_cut_55 ⟨Nat.le_of_ble_eq_true rfl, Nat.le_of_ble_eq_true rfl⟩) hP hD hK hS hA (fun u58 H locs w59 hP hD hK hS => ?_)
      obtain ⟨V62, L63⟩ := u58
      obtain ⟨hMV62, ajV62, axL63, t60, t61⟩ := w59
      have alL63 : agL [14] L L63 := agL.tr alL6 axL63 (by decide)
      have hP : va_P D vwCl (xw ad kk V62 L63 Z) H := hP
      have hD : va_D A (xw ad kk V62 L63 Z) := hD
      have hMV62 : rgd bX V62 := hMV62
      have ajV62 : agr [(6, 6)] [12, 14] V4 V62 := ajV62
      have agV62 : agr [(6, 6), (6, 7)] [12, 13, 14] V V62 := agV4.tr ajV62 (by decide) (by decide)
      have t60 : ∃ e : Nat, RUN isLD (V4 10) (V4 6 5).toInt.toNat gs e ∧ (V62 6 6).toInt = (e : Int) ∧ (12 < e - gs → (V62 12 (Int32.toNatClampNeg (V4 6 7))).toInt = 1) ∧ (e - gs ≤ 12 → KW L6 (wv (V4 10) gs (e - gs)) (V62 12 (Int32.toNatClampNeg (V4 6 7))).toInt ∧ L63 14 (Int32.toNatClampNeg (V4 6 7)) = wv (V4 10) gs (e - gs)) := t60
      have t61 : ∀ k : Nat, k ≠ (Int32.toNatClampNeg (V4 6 7)) → V62 12 k = V4 12 k ∧ L63 14 k = L6 14 k := t61
      obtain ⟨ge, hr0, hp5, hk1, hk2⟩ := t60
      have f10 : V4 10 = V 10 := up2_fo hV4 (by decide)
      have f6 : V4 6 = V 6 := up2_fo hV4 (by decide)
      rw [f10, f6] at hr0
      rw [f6] at hk1
      rw [f10, f6] at hk2
      have hle := hr0.2.1
      have hgt := hr0.1
      have hge : (ge : Int) ≤ (V 6 5).toInt := by omega
      refine lv_goto (tgt := 95) hx hb dX9_cut_58 (by decide) ?_
      refine lv_aload_n hx hb dX9_cut_95 rfl (lv_at hl 1 rfl) ?_
      refine lv_dup hx hb dX9_cut_96 rfl ?_
      refine va_get (D := D) (ci := 9) (v := .int (V62 6 7)) (fs := (xfTape ad V62 L63 Z)) (C := RX9) (T := TX9) (N := 12) hx hb hg inX9 hown hK hP 6 xgTape rfl 7 (by decide) (hg _ w260) (fun _ h9 => h9) rfl dX9_cut_97 ?_
      refine g_top (v := (V 6 7)) ((ajV62 6 7 rfl).trans (up2_o hV4 (by decide))) ?_
      refine lv_iconst (v := 1) hx hb dX9_cut_100 (by decide) ?_
      refine lv_iadd hx hb dX9_cut_101 ?_
      refine lv_topi (fun z64 ez64 => ?_)
      have hz64 : z64.toInt = ((V 6 7)).toInt + 1 := i_add ez64 rfl (by decide) (by (first | exact om_8e750d289af3 rp2 r3.1 | omega))
      refine va_put (D := D) (ci := 9) (v := .int z64) (ty := tyX9 7) (fs := (xfTape ad V62 L63 Z)) (C := RX9) (T := TX9) (N := 12) hx hb hg inX9 tyX9 tyX9_ok nmX9 hown hK hP hD hS 6 xgTape rfl 7 (by decide) (hg _ w260) (fun _ h9 => h9) rfl (tyX9_ok 7 (by decide)) rfl rfl (Nat.le_of_ble_eq_true rfl) dX9_cut_102 (fun H locs hP hD hS => ?_)
      obtain ⟨V65, hV65⟩ : ∃ z, z = up2 V62 6 7 z64 := ⟨_, rfl⟩
      have ew66 : (xw ad kk V62 L63 Z).set 6 ((ad 6), .inr (9, (xfTape ad V62 L63 Z).set 7 (.int z64))) = xw ad kk V65 L63 Z := by rw [hV65]; exact xw_ss (by decide) rfl (xb_si (by decide))
      have hP : va_P D vwCl (xw ad kk V65 L63 Z) H := by rw [← ew66]; exact hP
      have hD : va_D A (xw ad kk V65 L63 Z) := by rw [← ew66]; exact hD
      have hMV65 : rgd bX V65 := hMV62.put hV65 (show 0 ≤ z64.toInt ∧ z64.toInt ≤ 4000 from by first | exact om_71db763616c9 rp2 r3.1 hz64 | first | omega | ((try (have i_t18 := Imp.go t18 (imp_a (rgz15.1) (rgz15.2) (f53)))); (try (have i_t12 := Imp.go t12 (f14))); omega) | ((try (have i_t19 := Imp.go t19 (by omega))); (try (have i_t18 := Imp.go t18 (by omega))); (try (have i_t12 := Imp.go t12 (by omega))); (try (have i_t11 := Imp.go t11 (by omega))); first | omega | ((try (have i_rp4 := Imp.go rp4 (by omega))); (try (have i_rp4 := Imp.go rp4 (by omega))); (try (have i_t11 := Imp.go t11 (by omega))); (try (have i_t12 := Imp.go t12 (by omega))); (try (have i_t18 := Imp.go t18 (by omega))); (try (have i_t19 := Imp.go t19 (by omega))); omega)))
      have agV65 : agr [(6, 6), (6, 7)] [12, 13, 14] V V65 := agV62.up hV65 rfl
      have pq67 : (V65 6 5).toInt = ((V 6 5)).toInt := congrArg Int32.toInt ((up2_k hV65 (by decide)).trans ((ajV62 6 5 rfl).trans (up2_o hV4 (by decide))))
      have pq68 : (V65 6 6).toInt = ((V62 6 6)).toInt := congrArg Int32.toInt (up2_k hV65 (by decide))
      have r69 : 0 ≤ ((V62 6 6)).toInt ∧ ((V62 6 6)).toInt ≤ 4000 := hMV62 6 6
      have pq70 : (V65 6 7).toInt = z64.toInt := congrArg Int32.toInt (up2_s hV65)
      have hd9 : isLt (V 10 gs) := (by rw [← eg]; exact Imp.go t18 (by (first | exact om_2ebe32d50835 rgz15.1 rgz15.2 f53 | omega)))
      have hot : ∀ k, k ≠ (Int32.toNatClampNeg (V 6 7)) → V62 12 k = V4 12 k ∧ L63 14 k = L6 14 k := fun k hk => t61 k (by rw [f6]; exact hk)
      have rp71 : CUT V V65 L L63 gs (Int32.toNatClampNeg (V 6 7)) := CUT.mk1 hV4 (by omega) hL6 (by rw [(funext (fun q => ajV62 13 q rfl) : V62 13 = V4 13)] : V62 13 = V4 13) (by rw [(up2_fo hV65 (by decide) : V65 12 = V62 12)] : V65 12 = V62 12) (by rw [(up2_fo hV65 (by decide) : V65 13 = V62 13)] : V65 13 = V62 13) (by first | omega | ((try (have i_t18 := Imp.go t18 (imp_a (rgz15.1) (rgz15.2) (f53)))); (try (have i_t12 := Imp.go t12 (f14))); omega) | ((try (have i_t19 := Imp.go t19 (by omega))); (try (have i_t18 := Imp.go t18 (by omega))); (try (have i_t12 := Imp.go t12 (by omega))); (try (have i_t11 := Imp.go t11 (by omega))); first | omega | ((try (have i_rp4 := Imp.go rp4 (by omega))); (try (have i_rp4 := Imp.go rp4 (by omega))); (try (have i_t11 := Imp.go t11 (by omega))); (try (have i_t12 := Imp.go t12 (by omega))); (try (have i_t18 := Imp.go t18 (by omega))); (try (have i_t19 := Imp.go t19 (by omega))); omega))) (Or.inr (Or.inl ⟨hd9, hr0⟩)) ⟨fun q => absurd hd9 (fun z => dg_lt q z), fun _ => ⟨hk1, fun q => ⟨(hk2 q).1.ex (upL_14 hL6).1.symm, (hk2 q).2⟩⟩, fun _ q => absurd hd9 q⟩ hot
      exact W.vret hx hb hr (fun t ht hW => ⟨⟨(V65, L63), rfl, ⟨hMV65, agV65, alL63, (show (V65 6 6).toInt ≤ (V65 6 5).toInt from by first | omega | ((try (have i_t18 := Imp.go t18 (imp_a (rgz15.1) (rgz15.2) (f53)))); (try (have i_t12 := Imp.go t12 (f14))); omega) | ((try (have i_t19 := Imp.go t19 (by omega))); (try (have i_t18 := Imp.go t18 (by omega))); (try (have i_t12 := Imp.go t12 (by omega))); (try (have i_t11 := Imp.go t11 (by omega))); first | omega | ((try (have i_rp4 := Imp.go rp4 (by omega))); (try (have i_rp4 := Imp.go rp4 (by omega))); (try (have i_t11 := Imp.go t11 (by omega))); (try (have i_t12 := Imp.go t12 (by omega))); (try (have i_t18 := Imp.go t18 (by omega))); (try (have i_t19 := Imp.go t19 (by omega))); omega))), (show (V65 6 7).toInt = (V 6 7).toInt + 1 from by first | exact om_689eeacb6d53 hz64 pq70 | first | omega | ((try (have i_t18 := Imp.go t18 (imp_a (rgz15.1) (rgz15.2) (f53)))); (try (have i_t12 := Imp.go t12 (f14))); omega) | ((try (have i_t19 := Imp.go t19 (by omega))); (try (have i_t18 := Imp.go t18 (by omega))); (try (have i_t12 := Imp.go t12 (by omega))); (try (have i_t11 := Imp.go t11 (by omega))); first | omega | ((try (have i_rp4 := Imp.go rp4 (by omega))); (try (have i_rp4 := Imp.go rp4 (by omega))); (try (have i_t11 := Imp.go t11 (by omega))); (try (have i_t12 := Imp.go t12 (by omega))); (try (have i_t18 := Imp.go t18 (by omega))); (try (have i_t19 := Imp.go t19 (by omega))); omega))), rp71, (show (V 6 6).toInt + 1 ≤ (V65 6 6).toInt from by first | omega | ((try (have i_t18 := Imp.go t18 (imp_a (rgz15.1) (rgz15.2) (f53)))); (try (have i_t12 := Imp.go t12 (f14))); omega) | ((try (have i_t19 := Imp.go t19 (by omega))); (try (have i_t18 := Imp.go t18 (by omega))); (try (have i_t12 := Imp.go t12 (by omega))); (try (have i_t11 := Imp.go t11 (by omega))); first | omega | ((try (have i_rp4 := Imp.go rp4 (by omega))); (try (have i_rp4 := Imp.go rp4 (by omega))); (try (have i_t11 := Imp.go t11 (by omega))); (try (have i_t12 := Imp.go t12 (by omega))); (try (have i_t18 := Imp.go t18 (by omega))); (try (have i_t19 := Imp.go t19 (by omega))); omega)))⟩, by rw [ht]; exact hP, va_K.moved hW.alike hK, hD⟩, hS.F ht⟩) hS.2.2 dX9_cut_105
  · skip
    have f72 : z8.toInt ≠ 0 := b_neq rfl (by decide) c13
    refine lv_aload_n hx hb dX9_cut_40 rfl (lv_at hl 1 rfl) ?_
    have pq73 : (V4 6 5).toInt = ((V 6 5)).toInt := congrArg Int32.toInt (up2_o hV4 (by decide))
    have pq74 : (V4 6 6).toInt = ((V 6 6)).toInt := congrArg Int32.toInt (up2_o hV4 (by decide))
    have pq75 : (V4 6 7).toInt = ((V 6 7)).toInt := congrArg Int32.toInt (up2_o hV4 (by decide))
    refine gA_void (gA_runV (As := []) (rest := []) (ci := 9) (q0 := 6) hx hb hml hown hg hP hD hK hS hA hnw hgk (x_cutNumber2 l D ks H.size ad kk V4 L6 Z (gs) hMV4 (show (V4 6 6).toInt < (V4 6 5).toInt from by first | exact om_3c0fce7f0866 rp1 pq73 pq74 | first | omega | ((try (have i_t12 := Imp.go t12 (by omega))); (try (have i_t11 := Imp.go t11 (by omega))); (try (have i_rp4 := Imp.go rp4 (by omega))); (try (have i_rp4 := Imp.go rp4 (by omega))); (try (have i_t11 := Imp.go t11 (by omega))); (try (have i_t12 := Imp.go t12 (by omega))); omega)) (show (V4 6 7).toInt ≤ 3999 from by first | exact om_cca9797ede8c rp2 pq75 | first | omega | ((try (have i_t12 := Imp.go t12 (by omega))); (try (have i_t11 := Imp.go t11 (by omega))); (try (have i_rp4 := Imp.go rp4 (by omega))); (try (have i_rp4 := Imp.go rp4 (by omega))); (try (have i_t11 := Imp.go t11 (by omega))); (try (have i_t12 := Imp.go t12 (by omega))); omega)) (show (V4 6 6).toInt = (gs : Int) from by first | exact om_adf531c77a0d rp3 pq74 | first | omega | ((try (have i_t12 := Imp.go t12 (by omega))); (try (have i_t11 := Imp.go t11 (by omega))); (try (have i_rp4 := Imp.go rp4 (by omega))); (try (have i_rp4 := Imp.go rp4 (by omega))); (try (have i_t11 := Imp.go t11 (by omega))); (try (have i_t12 := Imp.go t12 (by omega))); omega)) (by rw [(up2_fo hV4 (by decide) : V4 10 = V 10), ← eg]; exact Imp.go t11 (by (first | exact om_2ebe32d50835 rgz8.1 rgz8.2 f72 | omega)))) w774 w776 w1 w157 w777 rfl xgTape hdV_yX9_cutNumber ⟨Nat.le_of_ble_eq_true rfl, Nat.le_of_ble_eq_true rfl⟩ rfl hl.1 rfl (Nat.le_of_ble_eq_true rfl) dX9_cut_41 ⟨Nat.le_of_ble_eq_true rfl, Nat.le_of_ble_eq_true rfl⟩) hP hD hK hS hA (fun u77 H locs w78 hP hD hK hS => ?_)
    obtain ⟨V81, L82⟩ := u77
    obtain ⟨hMV81, ajV81, axL82, t79, t80⟩ := w78
    have alL82 : agL [14] L L82 := agL.tr alL6 axL82 (by decide)
    have hP : va_P D vwCl (xw ad kk V81 L82 Z) H := hP
    have hD : va_D A (xw ad kk V81 L82 Z) := hD
    have hMV81 : rgd bX V81 := hMV81
    have ajV81 : agr [(6, 6)] [12, 14] V4 V81 := ajV81
    have agV81 : agr [(6, 6), (6, 7)] [12, 13, 14] V V81 := agV4.tr ajV81 (by decide) (by decide)
    have t79 : ∃ e : Nat, RUN isDg (V4 10) (V4 6 5).toInt.toNat gs e ∧ (V81 6 6).toInt = (e : Int) ∧ (9 < e - gs → (V81 12 (Int32.toNatClampNeg (V4 6 7))).toInt = 1) ∧ (e - gs ≤ 9 → (V81 12 (Int32.toNatClampNeg (V4 6 7))).toInt = 2 ∧ L82 14 (Int32.toNatClampNeg (V4 6 7)) = nv (V4 10) gs (e - gs)) := t79
    have t80 : ∀ k : Nat, k ≠ (Int32.toNatClampNeg (V4 6 7)) → V81 12 k = V4 12 k ∧ L82 14 k = L6 14 k := t80
    obtain ⟨ge, hr0, hp5, hk1, hk2⟩ := t79
    have f10 : V4 10 = V 10 := up2_fo hV4 (by decide)
    have f6 : V4 6 = V 6 := up2_fo hV4 (by decide)
    rw [f10, f6] at hr0
    rw [f6] at hk1
    rw [f10, f6] at hk2
    have hle := hr0.2.1
    have hgt := hr0.1
    have hge : (ge : Int) ≤ (V 6 5).toInt := by omega
    refine lv_goto (tgt := 95) hx hb dX9_cut_44 (by decide) ?_
    refine lv_aload_n hx hb dX9_cut_95 rfl (lv_at hl 1 rfl) ?_
    refine lv_dup hx hb dX9_cut_96 rfl ?_
    refine va_get (D := D) (ci := 9) (v := .int (V81 6 7)) (fs := (xfTape ad V81 L82 Z)) (C := RX9) (T := TX9) (N := 12) hx hb hg inX9 hown hK hP 6 xgTape rfl 7 (by decide) (hg _ w260) (fun _ h9 => h9) rfl dX9_cut_97 ?_
    refine g_top (v := (V 6 7)) ((ajV81 6 7 rfl).trans (up2_o hV4 (by decide))) ?_
    refine lv_iconst (v := 1) hx hb dX9_cut_100 (by decide) ?_
    refine lv_iadd hx hb dX9_cut_101 ?_
    refine lv_topi (fun z83 ez83 => ?_)
    have hz83 : z83.toInt = ((V 6 7)).toInt + 1 := i_add ez83 rfl (by decide) (by (first | exact om_8e750d289af3 rp2 r3.1 | omega))
    refine va_put (D := D) (ci := 9) (v := .int z83) (ty := tyX9 7) (fs := (xfTape ad V81 L82 Z)) (C := RX9) (T := TX9) (N := 12) hx hb hg inX9 tyX9 tyX9_ok nmX9 hown hK hP hD hS 6 xgTape rfl 7 (by decide) (hg _ w260) (fun _ h9 => h9) rfl (tyX9_ok 7 (by decide)) rfl rfl (Nat.le_of_ble_eq_true rfl) dX9_cut_102 (fun H locs hP hD hS => ?_)
    obtain ⟨V84, hV84⟩ : ∃ z, z = up2 V81 6 7 z83 := ⟨_, rfl⟩
    have ew85 : (xw ad kk V81 L82 Z).set 6 ((ad 6), .inr (9, (xfTape ad V81 L82 Z).set 7 (.int z83))) = xw ad kk V84 L82 Z := by rw [hV84]; exact xw_ss (by decide) rfl (xb_si (by decide))
    have hP : va_P D vwCl (xw ad kk V84 L82 Z) H := by rw [← ew85]; exact hP
    have hD : va_D A (xw ad kk V84 L82 Z) := by rw [← ew85]; exact hD
    have hMV84 : rgd bX V84 := hMV81.put hV84 (show 0 ≤ z83.toInt ∧ z83.toInt ≤ 4000 from by first | exact om_71db763616c9 rp2 r3.1 hz83 | first | omega | ((try (have i_t12 := Imp.go t12 (by omega))); (try (have i_t11 := Imp.go t11 (by omega))); (try (have i_rp4 := Imp.go rp4 (by omega))); (try (have i_rp4 := Imp.go rp4 (by omega))); (try (have i_t11 := Imp.go t11 (by omega))); (try (have i_t12 := Imp.go t12 (by omega))); omega))
    have agV84 : agr [(6, 6), (6, 7)] [12, 13, 14] V V84 := agV81.up hV84 rfl
    have pq86 : (V84 6 5).toInt = ((V 6 5)).toInt := congrArg Int32.toInt ((up2_k hV84 (by decide)).trans ((ajV81 6 5 rfl).trans (up2_o hV4 (by decide))))
    have pq87 : (V84 6 6).toInt = ((V81 6 6)).toInt := congrArg Int32.toInt (up2_k hV84 (by decide))
    have r88 : 0 ≤ ((V81 6 6)).toInt ∧ ((V81 6 6)).toInt ≤ 4000 := hMV81 6 6
    have pq89 : (V84 6 7).toInt = z83.toInt := congrArg Int32.toInt (up2_s hV84)
    have hd9 : isDg (V 10 gs) := (by rw [← eg]; exact Imp.go t11 (by (first | exact om_2ebe32d50835 rgz8.1 rgz8.2 f72 | omega)))
    have hot : ∀ k, k ≠ (Int32.toNatClampNeg (V 6 7)) → V81 12 k = V4 12 k ∧ L82 14 k = L6 14 k := fun k hk => t80 k (by rw [f6]; exact hk)
    have rp90 : CUT V V84 L L82 gs (Int32.toNatClampNeg (V 6 7)) := CUT.mk1 hV4 (by omega) hL6 (by rw [(funext (fun q => ajV81 13 q rfl) : V81 13 = V4 13)] : V81 13 = V4 13) (by rw [(up2_fo hV84 (by decide) : V84 12 = V81 12)] : V84 12 = V81 12) (by rw [(up2_fo hV84 (by decide) : V84 13 = V81 13)] : V84 13 = V81 13) (by first | omega | ((try (have i_t12 := Imp.go t12 (by omega))); (try (have i_t11 := Imp.go t11 (by omega))); (try (have i_rp4 := Imp.go rp4 (by omega))); (try (have i_rp4 := Imp.go rp4 (by omega))); (try (have i_t11 := Imp.go t11 (by omega))); (try (have i_t12 := Imp.go t12 (by omega))); omega)) (Or.inl ⟨hd9, hr0⟩) ⟨fun _ => ⟨hk1, hk2⟩, fun q => absurd q (fun q => dg_lt hd9 q), fun q => absurd hd9 q⟩ hot
    exact W.vret hx hb hr (fun t ht hW => ⟨⟨(V84, L82), rfl, ⟨hMV84, agV84, alL82, (show (V84 6 6).toInt ≤ (V84 6 5).toInt from by first | omega | ((try (have i_t12 := Imp.go t12 (by omega))); (try (have i_t11 := Imp.go t11 (by omega))); (try (have i_rp4 := Imp.go rp4 (by omega))); (try (have i_rp4 := Imp.go rp4 (by omega))); (try (have i_t11 := Imp.go t11 (by omega))); (try (have i_t12 := Imp.go t12 (by omega))); omega)), (show (V84 6 7).toInt = (V 6 7).toInt + 1 from by first | exact om_689eeacb6d53 hz83 pq89 | first | omega | ((try (have i_t12 := Imp.go t12 (by omega))); (try (have i_t11 := Imp.go t11 (by omega))); (try (have i_rp4 := Imp.go rp4 (by omega))); (try (have i_rp4 := Imp.go rp4 (by omega))); (try (have i_t11 := Imp.go t11 (by omega))); (try (have i_t12 := Imp.go t12 (by omega))); omega)), rp90, (show (V 6 6).toInt + 1 ≤ (V84 6 6).toInt from by first | omega | ((try (have i_t12 := Imp.go t12 (by omega))); (try (have i_t11 := Imp.go t11 (by omega))); (try (have i_rp4 := Imp.go rp4 (by omega))); (try (have i_rp4 := Imp.go rp4 (by omega))); (try (have i_t11 := Imp.go t11 (by omega))); (try (have i_t12 := Imp.go t12 (by omega))); omega))⟩, by rw [ht]; exact hP, va_K.moved hW.alike hK, hD⟩, hS.F ht⟩) hS.2.2 dX9_cut_105
abbrev r_x_next2 : Room := { frames := 0, cells := 0, slots := 0, locals := 0 }
abbrev q_x_next2 (D : va_G) (ks : KS) (ad : Nat → Nat) (kk : Nat → ClassId) (V : Vf) (L : Lf) (Z : XZ) (A : Nat → Prop) : Array Value → State → Outcome → State → Prop := va_Qv (fun (u : Vf × Lf) => rgd bX u.1 ∧ agr [(6, 8), (6, 9), (6, 10)] [] V u.1 ∧ agL [6] L u.2 ∧ ((u.1 6 8).toInt ≤ (u.1 6 7).toInt) ∧ (CUR u.1 u.2 (Int32.toNatClampNeg (V 6 8)))) (fun u t => gq D A (xw ad kk u.1 u.2 Z) (xty kk Z) t) A
set_option maxHeartbeats 4000000 in
set_option maxRecDepth 100000 in
theorem x_next2 (l : Launch) (D : va_G) (ks : KS) (sz : Nat) (ad : Nat → Nat) (kk : Nat → ClassId) (V : Vf) (L : Lf) (Z : XZ)  (hMV : rgd bX V) (rp1 : (V 6 8).toInt ≤ (V 6 7).toInt)  : Met l yX9_next (Cond.code yX9_next cX9_next 1 none :: GW) r_x_next2 (va_Pc [.ref (ad 6)] (gp D ks (xw ad kk V L Z) (xty kk Z) sz)) (q_x_next2 D ks ad kk V L Z  (va_A (xw ad kk V L Z) sz)) 0 0 (va_A (xw ad kk V L Z) sz) := by
  refine g_met (q_x_next2 D ks ad kk V L Z) (by decide) (Nat.le_of_ble_eq_true rfl) ?_
  intro p e s m below meth c A ls H locs hx hb hr hml hown hg hlocks hin hnw hgk hP hK hD hS hA hl
  have hown : s.vm.findClass RX9 = some m.cls := hown
  have hl : lv_has ls 1 [(0, .ref (ad 6))] := hl
  have hP : va_P D vwCl (xw ad kk V L Z) H := hP
  have hD : va_D A (xw ad kk V L Z) := hD
  have hK : va_K D vwCl (xty kk Z) s := hK
  have agV : agr [(6, 8), (6, 9), (6, 10)] [] V V := agr.rf
  have alL : agL [6] L L := agL.rf
  have r1 : 0 ≤ ((V 6 8)).toInt ∧ ((V 6 8)).toInt ≤ 4000 := hMV 6 8
  have r2 : 0 ≤ ((V 6 7)).toInt ∧ ((V 6 7)).toInt ≤ 4000 := hMV 6 7
  refine lv_aload_n hx hb dX9_next_0 rfl (lv_at hl 0 rfl) ?_
  refine lv_aload_n hx hb dX9_next_1 rfl (lv_at hl 0 rfl) ?_
  refine va_get (D := D) (ci := 9) (v := .ref (ad 9)) (fs := (xfTape ad V L Z)) (C := RX9) (T := TX9) (N := 12) hx hb hg inX9 hown hK hP 6 xgTape rfl 2 (by decide) (hg _ w254) (fun _ h9 => h9) rfl dX9_next_2 ?_
  refine lv_aload_n hx hb dX9_next_5 rfl (lv_at hl 0 rfl) ?_
  refine va_get (D := D) (ci := 9) (v := .int (V 6 8)) (fs := (xfTape ad V L Z)) (C := RX9) (T := TX9) (N := 12) hx hb hg inX9 hown hK hP 6 xgTape rfl 8 (by decide) (hg _ w261) (fun _ h9 => h9) rfl dX9_next_6 ?_
  refine va_iald (D := D) (i := (V 6 8)) hx hb hK hP 9 2 rfl rfl (i_in (a := ((V 6 8)).toInt) rfl (by (first | exact om_d7f25fda8b0e r1.1 r1.2 | omega))) dX9_next_9 ?_
  refine va_put (D := D) (ci := 9) (v := .int (V 12 (Int32.toNatClampNeg (V 6 8)))) (ty := tyX9 9) (fs := (xfTape ad V L Z)) (C := RX9) (T := TX9) (N := 12) hx hb hg inX9 tyX9 tyX9_ok nmX9 hown hK hP hD hS 6 xgTape rfl 9 (by decide) (hg _ w264) (fun _ h9 => h9) rfl (tyX9_ok 9 (by decide)) rfl rfl (Nat.le_of_ble_eq_true rfl) dX9_next_10 (fun H locs hP hD hS => ?_)
  obtain ⟨V3, hV3⟩ : ∃ z, z = up2 V 6 9 (V 12 (Int32.toNatClampNeg (V 6 8))) := ⟨_, rfl⟩
  have ew4 : (xw ad kk V L Z).set 6 ((ad 6), .inr (9, (xfTape ad V L Z).set 9 (.int (V 12 (Int32.toNatClampNeg (V 6 8)))))) = xw ad kk V3 L Z := by rw [hV3]; exact xw_ss (by decide) rfl (xb_si (by decide))
  have hP : va_P D vwCl (xw ad kk V3 L Z) H := by rw [← ew4]; exact hP
  have hD : va_D A (xw ad kk V3 L Z) := by rw [← ew4]; exact hD
  have hMV3 : rgd bX V3 := hMV.put hV3 (i_full _)
  have agV3 : agr [(6, 8), (6, 9), (6, 10)] [] V V3 := agV.up hV3 rfl
  refine lv_aload_n hx hb dX9_next_13 rfl (lv_at hl 0 rfl) ?_
  refine lv_aload_n hx hb dX9_next_14 rfl (lv_at hl 0 rfl) ?_
  refine va_get (D := D) (ci := 9) (v := .ref (ad 10)) (fs := (xfTape ad V3 L Z)) (C := RX9) (T := TX9) (N := 12) hx hb hg inX9 hown hK hP 6 xgTape rfl 3 (by decide) (hg _ w255) (fun _ h9 => h9) rfl dX9_next_15 ?_
  refine lv_aload_n hx hb dX9_next_18 rfl (lv_at hl 0 rfl) ?_
  refine va_get (D := D) (ci := 9) (v := .int (V3 6 8)) (fs := (xfTape ad V3 L Z)) (C := RX9) (T := TX9) (N := 12) hx hb hg inX9 hown hK hP 6 xgTape rfl 8 (by decide) (hg _ w261) (fun _ h9 => h9) rfl dX9_next_19 ?_
  refine g_top (v := (V 6 8)) (up2_k hV3 (by decide)) ?_
  refine va_iald (D := D) (i := (V 6 8)) hx hb hK hP 10 3 rfl rfl (i_in (a := ((V 6 8)).toInt) rfl (by (first | exact om_d7f25fda8b0e r1.1 r1.2 | omega))) dX9_next_22 ?_
  refine g_top (v := (V 13 (Int32.toNatClampNeg (V 6 8)))) (up2_o hV3 (by decide)) ?_
  have r5 : 0 ≤ ((V 13 (Int32.toNatClampNeg (V 6 8)))).toInt ∧ ((V 13 (Int32.toNatClampNeg (V 6 8)))).toInt ≤ 4000 := hMV 13 (Int32.toNatClampNeg (V 6 8))
  refine va_put (D := D) (ci := 9) (v := .int (V 13 (Int32.toNatClampNeg (V 6 8)))) (ty := tyX9 10) (fs := (xfTape ad V3 L Z)) (C := RX9) (T := TX9) (N := 12) hx hb hg inX9 tyX9 tyX9_ok nmX9 hown hK hP hD hS 6 xgTape rfl 10 (by decide) (hg _ w265) (fun _ h9 => h9) rfl (tyX9_ok 10 (by decide)) rfl rfl (Nat.le_of_ble_eq_true rfl) dX9_next_23 (fun H locs hP hD hS => ?_)
  obtain ⟨V6, hV6⟩ : ∃ z, z = up2 V3 6 10 (V 13 (Int32.toNatClampNeg (V 6 8))) := ⟨_, rfl⟩
  have ew7 : (xw ad kk V3 L Z).set 6 ((ad 6), .inr (9, (xfTape ad V3 L Z).set 10 (.int (V 13 (Int32.toNatClampNeg (V 6 8)))))) = xw ad kk V6 L Z := by rw [hV6]; exact xw_ss (by decide) rfl (xb_si (by decide))
  have hP : va_P D vwCl (xw ad kk V6 L Z) H := by rw [← ew7]; exact hP
  have hD : va_D A (xw ad kk V6 L Z) := by rw [← ew7]; exact hD
  have hMV6 : rgd bX V6 := hMV3.put hV6 (show 0 ≤ ((V 13 (Int32.toNatClampNeg (V 6 8)))).toInt ∧ ((V 13 (Int32.toNatClampNeg (V 6 8)))).toInt ≤ 4000 from by (first | exact om_1194ef72f15b r5.1 r5.2 | omega))
  have agV6 : agr [(6, 8), (6, 9), (6, 10)] [] V V6 := agV3.up hV6 rfl
  refine lv_aload_n hx hb dX9_next_26 rfl (lv_at hl 0 rfl) ?_
  refine lv_aload_n hx hb dX9_next_27 rfl (lv_at hl 0 rfl) ?_
  refine va_get (D := D) (ci := 9) (v := .ref (ad 11)) (fs := (xfTape ad V6 L Z)) (C := RX9) (T := TX9) (N := 12) hx hb hg inX9 hown hK hP 6 xgTape rfl 4 (by decide) (hg _ w256) (fun _ h9 => h9) rfl dX9_next_28 ?_
  refine lv_aload_n hx hb dX9_next_31 rfl (lv_at hl 0 rfl) ?_
  refine va_get (D := D) (ci := 9) (v := .int (V6 6 8)) (fs := (xfTape ad V6 L Z)) (C := RX9) (T := TX9) (N := 12) hx hb hg inX9 hown hK hP 6 xgTape rfl 8 (by decide) (hg _ w261) (fun _ h9 => h9) rfl dX9_next_32 ?_
  refine g_top (v := (V 6 8)) ((up2_k hV6 (by decide)).trans (up2_k hV3 (by decide))) ?_
  refine va_lald (D := D) (i := (V 6 8)) hx hb hK hP 11 4 rfl rfl (i_in (a := ((V 6 8)).toInt) rfl (by (first | exact om_d7f25fda8b0e r1.1 r1.2 | omega))) dX9_next_35 ?_
  refine lv_topl (fun w8 ew8 => ?_)
  refine va_put (D := D) (ci := 9) (v := .long w8) (ty := tyX9 11) (fs := (xfTape ad V6 L Z)) (C := RX9) (T := TX9) (N := 12) hx hb hg inX9 tyX9 tyX9_ok nmX9 hown hK hP hD hS 6 xgTape rfl 11 (by decide) (hg _ w268) (fun _ h9 => h9) rfl (tyX9_ok 11 (by decide)) rfl rfl (Nat.le_of_ble_eq_true rfl) dX9_next_36 (fun H locs hP hD hS => ?_)
  obtain ⟨L9, hL9⟩ : ∃ z, z = upL L 6 11 w8 := ⟨_, rfl⟩
  have ew10 : (xw ad kk V6 L Z).set 6 ((ad 6), .inr (9, (xfTape ad V6 L Z).set 11 (.long w8))) = xw ad kk V6 L9 Z := by rw [hL9]; exact xw_ss (by decide) rfl (fun j => xe_L (fun a => absurd a.1 (by decide)))
  have hP : va_P D vwCl (xw ad kk V6 L9 Z) H := by rw [← ew10]; exact hP
  have hD : va_D A (xw ad kk V6 L9 Z) := by rw [← ew10]; exact hD
  have alL9 : agL [6] L L9 := agL.up alL hL9 rfl
  refine lv_aload_n hx hb dX9_next_39 rfl (lv_at hl 0 rfl) ?_
  refine va_get (D := D) (ci := 9) (v := .int (V6 6 8)) (fs := (xfTape ad V6 L9 Z)) (C := RX9) (T := TX9) (N := 12) hx hb hg inX9 hown hK hP 6 xgTape rfl 8 (by decide) (hg _ w261) (fun _ h9 => h9) rfl dX9_next_40 ?_
  refine g_top (v := (V 6 8)) ((up2_k hV6 (by decide)).trans (up2_k hV3 (by decide))) ?_
  refine lv_aload_n hx hb dX9_next_43 rfl (lv_at hl 0 rfl) ?_
  refine va_get (D := D) (ci := 9) (v := .int (V6 6 7)) (fs := (xfTape ad V6 L9 Z)) (C := RX9) (T := TX9) (N := 12) hx hb hg inX9 hown hK hP 6 xgTape rfl 7 (by decide) (hg _ w260) (fun _ h9 => h9) rfl dX9_next_44 ?_
  refine g_top (v := (V 6 7)) ((up2_k hV6 (by decide)).trans (up2_k hV3 (by decide))) ?_
  refine lv_icmp_ge (tgt := 60) hx hb dX9_next_47 (by decide) (fun c11 => ?_) (fun c11 => ?_)
  · skip
    have f12 : ((V 6 7)).toInt ≤ ((V 6 8)).toInt := b_le rfl rfl c11
    have pq13 : (V6 6 8).toInt = ((V 6 8)).toInt := congrArg Int32.toInt ((up2_k hV6 (by decide)).trans (up2_k hV3 (by decide)))
    have pq14 : (V6 6 7).toInt = ((V 6 7)).toInt := congrArg Int32.toInt ((up2_k hV6 (by decide)).trans (up2_k hV3 (by decide)))
    have kz15 := i_clamp (x := V 6 8) rfl (by (first | exact om_eafa9039069c r1.1 | omega))
    have rp16 : CUR V6 L9 (Int32.toNatClampNeg (V 6 8)) := ⟨by omega, (show V6 6 9 = V 12 (Int32.toNatClampNeg (V 6 8)) from ((up2_k hV6 (by decide)).trans (up2_s hV3))).trans (congrFun (by rw [(up2_fo hV6 (by decide) : V6 12 = V3 12), (up2_fo hV3 (by decide) : V3 12 = V 12)] : V6 12 = V 12) (Int32.toNatClampNeg (V 6 8))).symm, (show V6 6 10 = V 13 (Int32.toNatClampNeg (V 6 8)) from (up2_s hV6)).trans (congrFun (by rw [(up2_fo hV6 (by decide) : V6 13 = V3 13), (up2_fo hV3 (by decide) : V3 13 = V 13)] : V6 13 = V 13) (Int32.toNatClampNeg (V 6 8))).symm, (upL_s hL9).trans ((show w8 = L 14 (Int32.toNatClampNeg (V 6 8)) from ew8).trans (congrFun (upL_o hL9 (by decide)) _).symm), by split <;> omega⟩
    exact W.vret hx hb hr (fun t ht hW => ⟨⟨(V6, L9), rfl, ⟨hMV6, agV6, alL9, (show (V6 6 8).toInt ≤ (V6 6 7).toInt from by (first | exact om_842ee80c0797 rp1 pq13 pq14 | omega)), rp16⟩, by rw [ht]; exact hP, va_K.moved hW.alike hK, hD⟩, hS.F ht⟩) hS.2.2 dX9_next_60
  · skip
    have f17 : ((V 6 8)).toInt < ((V 6 7)).toInt := b_nle rfl rfl c11
    refine lv_aload_n hx hb dX9_next_50 rfl (lv_at hl 0 rfl) ?_
    refine lv_dup hx hb dX9_next_51 rfl ?_
    refine va_get (D := D) (ci := 9) (v := .int (V6 6 8)) (fs := (xfTape ad V6 L9 Z)) (C := RX9) (T := TX9) (N := 12) hx hb hg inX9 hown hK hP 6 xgTape rfl 8 (by decide) (hg _ w261) (fun _ h9 => h9) rfl dX9_next_52 ?_
    refine g_top (v := (V 6 8)) ((up2_k hV6 (by decide)).trans (up2_k hV3 (by decide))) ?_
    refine lv_iconst (v := 1) hx hb dX9_next_55 (by decide) ?_
    refine lv_iadd hx hb dX9_next_56 ?_
    refine lv_topi (fun z18 ez18 => ?_)
    have hz18 : z18.toInt = ((V 6 8)).toInt + 1 := i_add ez18 rfl (by decide) (by (first | exact om_b8a2391ac875 r1.1 r2.2 f17 | omega))
    refine va_put (D := D) (ci := 9) (v := .int z18) (ty := tyX9 8) (fs := (xfTape ad V6 L9 Z)) (C := RX9) (T := TX9) (N := 12) hx hb hg inX9 tyX9 tyX9_ok nmX9 hown hK hP hD hS 6 xgTape rfl 8 (by decide) (hg _ w261) (fun _ h9 => h9) rfl (tyX9_ok 8 (by decide)) rfl rfl (Nat.le_of_ble_eq_true rfl) dX9_next_57 (fun H locs hP hD hS => ?_)
    obtain ⟨V19, hV19⟩ : ∃ z, z = up2 V6 6 8 z18 := ⟨_, rfl⟩
    have ew20 : (xw ad kk V6 L9 Z).set 6 ((ad 6), .inr (9, (xfTape ad V6 L9 Z).set 8 (.int z18))) = xw ad kk V19 L9 Z := by rw [hV19]; exact xw_ss (by decide) rfl (xb_si (by decide))
    have hP : va_P D vwCl (xw ad kk V19 L9 Z) H := by rw [← ew20]; exact hP
    have hD : va_D A (xw ad kk V19 L9 Z) := by rw [← ew20]; exact hD
    have hMV19 : rgd bX V19 := hMV6.put hV19 (show 0 ≤ z18.toInt ∧ z18.toInt ≤ 4000 from by (first | exact om_65a6d0bb414d r1.1 r2.2 f17 hz18 | omega))
    have agV19 : agr [(6, 8), (6, 9), (6, 10)] [] V V19 := agV6.up hV19 rfl
    have pq21 : (V19 6 8).toInt = z18.toInt := congrArg Int32.toInt (up2_s hV19)
    have pq22 : (V19 6 7).toInt = ((V 6 7)).toInt := congrArg Int32.toInt ((up2_k hV19 (by decide)).trans ((up2_k hV6 (by decide)).trans (up2_k hV3 (by decide))))
    have kz23 := i_clamp (x := V 6 8) rfl (by (first | exact om_eafa9039069c r1.1 | omega))
    have rp24 : CUR V19 L9 (Int32.toNatClampNeg (V 6 8)) := ⟨by omega, (show V19 6 9 = V 12 (Int32.toNatClampNeg (V 6 8)) from ((up2_k hV19 (by decide)).trans ((up2_k hV6 (by decide)).trans (up2_s hV3)))).trans (congrFun (by rw [(up2_fo hV19 (by decide) : V19 12 = V6 12), (up2_fo hV6 (by decide) : V6 12 = V3 12), (up2_fo hV3 (by decide) : V3 12 = V 12)] : V19 12 = V 12) (Int32.toNatClampNeg (V 6 8))).symm, (show V19 6 10 = V 13 (Int32.toNatClampNeg (V 6 8)) from ((up2_k hV19 (by decide)).trans (up2_s hV6))).trans (congrFun (by rw [(up2_fo hV19 (by decide) : V19 13 = V6 13), (up2_fo hV6 (by decide) : V6 13 = V3 13), (up2_fo hV3 (by decide) : V3 13 = V 13)] : V19 13 = V 13) (Int32.toNatClampNeg (V 6 8))).symm, (upL_s hL9).trans ((show w8 = L 14 (Int32.toNatClampNeg (V 6 8)) from ew8).trans (congrFun (upL_o hL9 (by decide)) _).symm), by split <;> omega⟩
    exact W.vret hx hb hr (fun t ht hW => ⟨⟨(V19, L9), rfl, ⟨hMV19, agV19, alL9, (show (V19 6 8).toInt ≤ (V19 6 7).toInt from by (first | exact om_edfc951a51f8 f17 hz18 pq21 pq22 | omega)), rp24⟩, by rw [ht]; exact hP, va_K.moved hW.alike hK, hD⟩, hS.F ht⟩) hS.2.2 dX9_next_60
abbrev r_x_begin2 : Room := { frames := 5, cells := 0, slots := 0, locals := 112 }
abbrev q_x_begin2 (D : va_G) (ks : KS) (ad : Nat → Nat) (kk : Nat → ClassId) (V : Vf) (L : Lf) (Z : XZ) (A : Nat → Prop) : Array Value → State → Outcome → State → Prop := va_Qv (fun (u : Vf × Lf) => rgd bX u.1 ∧ agr [(6, 6), (6, 7), (6, 8), (6, 9), (6, 10)] [12, 13, 14] V u.1 ∧ agL [6, 14] L u.2 ∧ ((u.1 6 8).toInt ≤ (u.1 6 7).toInt) ∧ (CTE V L u.1 u.2)) (fun u t => gq D A (xw ad kk u.1 u.2 Z) (xty kk Z) t) A
set_option maxHeartbeats 4000000 in
set_option maxRecDepth 100000 in
theorem x_begin2 (l : Launch) (D : va_G) (ks : KS) (sz : Nat) (ad : Nat → Nat) (kk : Nat → ClassId) (V : Vf) (L : Lf) (Z : XZ)  (hMV : rgd bX V) (bp1 : ∀ k : Nat, (k : Int) < (V 6 5).toInt → isTp (V 10 k))  : Met l yX9_begin (Cond.code yX9_begin cX9_begin 2 none :: GW) r_x_begin2 (va_Pc [.ref (ad 6)] (gp D ks (xw ad kk V L Z) (xty kk Z) sz)) (q_x_begin2 D ks ad kk V L Z  (va_A (xw ad kk V L Z) sz)) 0 0 (va_A (xw ad kk V L Z) sz) := by
  refine g_met (q_x_begin2 D ks ad kk V L Z) (by decide) (Nat.le_of_ble_eq_true rfl) ?_
  intro p e s m below meth c A ls H locs hx hb hr hml hown hg hlocks hin hnw hgk hP hK hD hS hA hl
  have hown : s.vm.findClass RX9 = some m.cls := hown
  have hl : lv_has ls 2 [(0, .ref (ad 6))] := hl
  have hP : va_P D vwCl (xw ad kk V L Z) H := hP
  have hD : va_D A (xw ad kk V L Z) := hD
  have hK : va_K D vwCl (xty kk Z) s := hK
  have agV : agr [(6, 6), (6, 7), (6, 8), (6, 9), (6, 10)] [12, 13, 14] V V := agr.rf
  have alL : agL [6, 14] L L := agL.rf
  refine lv_aload_n hx hb dX9_begin_0 rfl (lv_at hl 0 rfl) ?_
  refine lv_iconst (v := 0) hx hb dX9_begin_1 (by decide) ?_
  refine va_put (D := D) (ci := 9) (v := .int 0) (ty := tyX9 6) (fs := (xfTape ad V L Z)) (C := RX9) (T := TX9) (N := 12) hx hb hg inX9 tyX9 tyX9_ok nmX9 hown hK hP hD hS 6 xgTape rfl 6 (by decide) (hg _ w259) (fun _ h9 => h9) rfl (tyX9_ok 6 (by decide)) rfl rfl (Nat.le_of_ble_eq_true rfl) dX9_begin_2 (fun H locs hP hD hS => ?_)
  obtain ⟨V1, hV1⟩ : ∃ z, z = up2 V 6 6 0 := ⟨_, rfl⟩
  have ew2 : (xw ad kk V L Z).set 6 ((ad 6), .inr (9, (xfTape ad V L Z).set 6 (.int 0))) = xw ad kk V1 L Z := by rw [hV1]; exact xw_ss (by decide) rfl (xb_si (by decide))
  have hP : va_P D vwCl (xw ad kk V1 L Z) H := by rw [← ew2]; exact hP
  have hD : va_D A (xw ad kk V1 L Z) := by rw [← ew2]; exact hD
  have hMV1 : rgd bX V1 := hMV.put hV1 (by decide)
  have agV1 : agr [(6, 6), (6, 7), (6, 8), (6, 9), (6, 10)] [12, 13, 14] V V1 := agV.up hV1 rfl
  refine lv_aload_n hx hb dX9_begin_5 rfl (lv_at hl 0 rfl) ?_
  refine lv_iconst (v := 0) hx hb dX9_begin_6 (by decide) ?_
  refine va_put (D := D) (ci := 9) (v := .int 0) (ty := tyX9 7) (fs := (xfTape ad V1 L Z)) (C := RX9) (T := TX9) (N := 12) hx hb hg inX9 tyX9 tyX9_ok nmX9 hown hK hP hD hS 6 xgTape rfl 7 (by decide) (hg _ w260) (fun _ h9 => h9) rfl (tyX9_ok 7 (by decide)) rfl rfl (Nat.le_of_ble_eq_true rfl) dX9_begin_7 (fun H locs hP hD hS => ?_)
  obtain ⟨V3, hV3⟩ : ∃ z, z = up2 V1 6 7 0 := ⟨_, rfl⟩
  have ew4 : (xw ad kk V1 L Z).set 6 ((ad 6), .inr (9, (xfTape ad V1 L Z).set 7 (.int 0))) = xw ad kk V3 L Z := by rw [hV3]; exact xw_ss (by decide) rfl (xb_si (by decide))
  have hP : va_P D vwCl (xw ad kk V3 L Z) H := by rw [← ew4]; exact hP
  have hD : va_D A (xw ad kk V3 L Z) := by rw [← ew4]; exact hD
  have hMV3 : rgd bX V3 := hMV1.put hV3 (by decide)
  have agV3 : agr [(6, 6), (6, 7), (6, 8), (6, 9), (6, 10)] [12, 13, 14] V V3 := agV1.up hV3 rfl
  refine lv_iconst (v := 0) hx hb dX9_begin_10 (by decide) ?_
  refine lv_istore_n (lv' := [(1, .int 0), (0, .ref (ad 6))]) hx hb dX9_begin_11 rfl hl (by decide) rfl (fun ls hl => ?_)
  have lp8 : ∀ (fulp8 : Nat) (y5 : Int32) (V6 : Vf) (L7 : Lf) (H : Heap) (locs : List Loc) (ls : Array Slot), 0 ≤ y5.toInt ∧ y5.toInt ≤ 4000 → (V6 6 6).toInt ≤ (V6 6 5).toInt → (V6 6 7).toInt ≤ y5.toInt → y5.toInt ≤ (V6 6 6).toInt → (CT V L V6 L7) → 4000 - y5.toInt < (fulp8 : Int) → agL [6, 14] L L7 → agr [(6, 6), (6, 7)] [12, 13, 14] V3 V6 → rgd bX V6 → va_P D vwCl (xw ad kk V6 L7 Z) H → va_D A (xw ad kk V6 L7 Z) → va_S A s.heap H locs → lv_has ls 2 [(1, .int y5), (0, .ref (ad 6))] → W p l e r_x_begin2 s m ([.ref (ad 6)] : List Value).toArray below meth c H locs 0 0 (MQ below (q_x_begin2 D ks ad kk V L Z  A) ([.ref (ad 6)] : List Value).toArray s 0 0 A) (F0 m 12 ls []) := by
    intro fulp8
    induction fulp8 with
    | zero =>
      intro y5 V6 L7 H locs ls klp8_0 xlp8_0 xlp8_1 xlp8_2 xlp8_3 hn alL7 ajV6 hMV6 hP hD hS hl
      exfalso; (first | exact om_03b755d7679e klp8_0.2 hn | omega)
    | succ fulp8 ihlp8 =>
      intro y5 V6 L7 H locs ls klp8_0 xlp8_0 xlp8_1 xlp8_2 xlp8_3 hn alL7 ajV6 hMV6 hP hD hS hl
      have agV6 : agr [(6, 6), (6, 7), (6, 8), (6, 9), (6, 10)] [12, 13, 14] V V6 := agV3.tr ajV6 (by decide) (by decide)
      have pq9 : (V6 6 5).toInt = ((V 6 5)).toInt := congrArg Int32.toInt ((ajV6 6 5 rfl).trans ((up2_k hV3 (by decide)).trans (up2_k hV1 (by decide))))
      have r10 : 0 ≤ ((V 6 5)).toInt ∧ ((V 6 5)).toInt ≤ 4000 := hMV 6 5
      have r11 : 0 ≤ ((V6 6 6)).toInt ∧ ((V6 6 6)).toInt ≤ 4000 := hMV6 6 6
      have r12 : 0 ≤ ((V6 6 7)).toInt ∧ ((V6 6 7)).toInt ≤ 4000 := hMV6 6 7
      refine lv_iload_n hx hb dX9_begin_12 rfl (lv_at hl 0 rfl) ?_
      refine lv_sipush (v := 4000) hx hb dX9_begin_13 (by decide) ?_
      refine lv_icmp_ge (tgt := 81) hx hb dX9_begin_16 (by decide) (fun c13 => ?_) (fun c13 => ?_)
      · skip
        have f14 : 4000 ≤ y5.toInt := b_le (by decide) rfl c13
        refine lv_aload_n hx hb dX9_begin_81 rfl (lv_at hl 1 rfl) ?_
        refine va_get (D := D) (ci := 9) (v := .ref (ad 9)) (fs := (xfTape ad V6 L7 Z)) (C := RX9) (T := TX9) (N := 12) hx hb hg inX9 hown hK hP 6 xgTape rfl 2 (by decide) (hg _ w254) (fun _ h9 => h9) rfl dX9_begin_82 ?_
        refine lv_aload_n hx hb dX9_begin_85 rfl (lv_at hl 1 rfl) ?_
        refine va_get (D := D) (ci := 9) (v := .int (V6 6 7)) (fs := (xfTape ad V6 L7 Z)) (C := RX9) (T := TX9) (N := 12) hx hb hg inX9 hown hK hP 6 xgTape rfl 7 (by decide) (hg _ w260) (fun _ h9 => h9) rfl dX9_begin_86 ?_
        refine lv_iconst (v := 0) hx hb dX9_begin_89 (by decide) ?_
        refine va_iast (D := D) (i := (V6 6 7)) (x := 0) hx hb hK hP hD hS 9 2 rfl rfl (i_in (a := ((V6 6 7)).toInt) rfl (by first | exact om_d7f25fda8b0e r12.1 r12.2 | first | omega | ((try (have i_bp1 := Imp.go bp1 (by omega))); omega))) dX9_begin_90 (fun H locs hP hD hS => ?_)
        obtain ⟨V15, hV15⟩ : ∃ z, z = up2 V6 12 (Int32.toNatClampNeg (V6 6 7)) 0 := ⟨_, rfl⟩
        have ew16 : (xw ad kk V6 L7 Z).set 9 ((ad 9), .inl ((kk 9), 4001, .inl (upd (V6 12) (Int32.toNatClampNeg (V6 6 7)) 0))) = xw ad kk V15 L7 Z := by rw [hV15]; exact xw_ss (by decide) rfl (xb_si (by decide))
        have hP : va_P D vwCl (xw ad kk V15 L7 Z) H := by rw [← ew16]; exact hP
        have hD : va_D A (xw ad kk V15 L7 Z) := by rw [← ew16]; exact hD
        have hMV15 : rgd bX V15 := hMV6.put hV15 (i_full _)
        have agV15 : agr [(6, 6), (6, 7), (6, 8), (6, 9), (6, 10)] [12, 13, 14] V V15 := agV6.up hV15 rfl
        refine lv_aload_n hx hb dX9_begin_91 rfl (lv_at hl 1 rfl) ?_
        refine va_get (D := D) (ci := 9) (v := .ref (ad 10)) (fs := (xfTape ad V15 L7 Z)) (C := RX9) (T := TX9) (N := 12) hx hb hg inX9 hown hK hP 6 xgTape rfl 3 (by decide) (hg _ w255) (fun _ h9 => h9) rfl dX9_begin_92 ?_
        refine lv_aload_n hx hb dX9_begin_95 rfl (lv_at hl 1 rfl) ?_
        refine va_get (D := D) (ci := 9) (v := .int (V15 6 7)) (fs := (xfTape ad V15 L7 Z)) (C := RX9) (T := TX9) (N := 12) hx hb hg inX9 hown hK hP 6 xgTape rfl 7 (by decide) (hg _ w260) (fun _ h9 => h9) rfl dX9_begin_96 ?_
        refine g_top (v := (V6 6 7)) (up2_o hV15 (by decide)) ?_
        refine lv_aload_n hx hb dX9_begin_99 rfl (lv_at hl 1 rfl) ?_
        refine va_get (D := D) (ci := 9) (v := .int (V15 6 5)) (fs := (xfTape ad V15 L7 Z)) (C := RX9) (T := TX9) (N := 12) hx hb hg inX9 hown hK hP 6 xgTape rfl 5 (by decide) (hg _ w258) (fun _ h9 => h9) rfl dX9_begin_100 ?_
        refine g_top (v := (V 6 5)) ((up2_o hV15 (by decide)).trans ((ajV6 6 5 rfl).trans ((up2_k hV3 (by decide)).trans (up2_k hV1 (by decide))))) ?_
        refine va_iast (D := D) (i := (V6 6 7)) (x := (V 6 5)) hx hb hK hP hD hS 10 3 rfl rfl (i_in (a := ((V6 6 7)).toInt) rfl (by first | exact om_d7f25fda8b0e r12.1 r12.2 | first | omega | ((try (have i_bp1 := Imp.go bp1 (by omega))); omega))) dX9_begin_103 (fun H locs hP hD hS => ?_)
        obtain ⟨V17, hV17⟩ : ∃ z, z = up2 V15 13 (Int32.toNatClampNeg (V6 6 7)) (V 6 5) := ⟨_, rfl⟩
        have ew18 : (xw ad kk V15 L7 Z).set 10 ((ad 10), .inl ((kk 10), 4001, .inl (upd (V15 13) (Int32.toNatClampNeg (V6 6 7)) (V 6 5)))) = xw ad kk V17 L7 Z := by rw [hV17]; exact xw_ss (by decide) rfl (xb_si (by decide))
        have hP : va_P D vwCl (xw ad kk V17 L7 Z) H := by rw [← ew18]; exact hP
        have hD : va_D A (xw ad kk V17 L7 Z) := by rw [← ew18]; exact hD
        have hMV17 : rgd bX V17 := hMV15.put hV17 (show 0 ≤ ((V 6 5)).toInt ∧ ((V 6 5)).toInt ≤ 4000 from by first | exact om_ecebcb700658 xlp8_0 xlp8_2 pq9 r10.2 f14 | first | omega | ((try (have i_bp1 := Imp.go bp1 (by omega))); omega))
        have agV17 : agr [(6, 6), (6, 7), (6, 8), (6, 9), (6, 10)] [12, 13, 14] V V17 := agV15.up hV17 rfl
        refine lv_aload_n hx hb dX9_begin_104 rfl (lv_at hl 1 rfl) ?_
        refine va_get (D := D) (ci := 9) (v := .ref (ad 11)) (fs := (xfTape ad V17 L7 Z)) (C := RX9) (T := TX9) (N := 12) hx hb hg inX9 hown hK hP 6 xgTape rfl 4 (by decide) (hg _ w256) (fun _ h9 => h9) rfl dX9_begin_105 ?_
        refine lv_aload_n hx hb dX9_begin_108 rfl (lv_at hl 1 rfl) ?_
        refine va_get (D := D) (ci := 9) (v := .int (V17 6 7)) (fs := (xfTape ad V17 L7 Z)) (C := RX9) (T := TX9) (N := 12) hx hb hg inX9 hown hK hP 6 xgTape rfl 7 (by decide) (hg _ w260) (fun _ h9 => h9) rfl dX9_begin_109 ?_
        refine g_top (v := (V6 6 7)) ((up2_o hV17 (by decide)).trans (up2_o hV15 (by decide))) ?_
        refine lv_lconst (v := 0) hx hb dX9_begin_112 (by decide) ?_
        refine va_last (D := D) (i := (V6 6 7)) (x := 0) hx hb hK hP hD hS 11 4 rfl rfl (i_in (a := ((V6 6 7)).toInt) rfl (by first | exact om_d7f25fda8b0e r12.1 r12.2 | first | omega | ((try (have i_bp1 := Imp.go bp1 (by omega))); omega))) dX9_begin_113 (fun H locs hP hD hS => ?_)
        obtain ⟨L19, hL19⟩ : ∃ z, z = upL L7 14 (Int32.toNatClampNeg (V6 6 7)) 0 := ⟨_, rfl⟩
        have ew20 : (xw ad kk V17 L7 Z).set 11 ((ad 11), .inl ((kk 11), 4001, .inr (.inl (vp_updL (L7 14) (Int32.toNatClampNeg (V6 6 7)) 0)))) = xw ad kk V17 L19 Z := by rw [hL19]; exact xw_ss (by decide) rfl (fun j => xe_L (fun a => absurd a.1 (by decide)))
        have hP : va_P D vwCl (xw ad kk V17 L19 Z) H := by rw [← ew20]; exact hP
        have hD : va_D A (xw ad kk V17 L19 Z) := by rw [← ew20]; exact hD
        have alL19 : agL [6, 14] L L19 := agL.up alL7 hL19 rfl
        refine lv_aload_n hx hb dX9_begin_114 rfl (lv_at hl 1 rfl) ?_
        refine lv_iconst (v := 0) hx hb dX9_begin_115 (by decide) ?_
        refine va_put (D := D) (ci := 9) (v := .int 0) (ty := tyX9 8) (fs := (xfTape ad V17 L19 Z)) (C := RX9) (T := TX9) (N := 12) hx hb hg inX9 tyX9 tyX9_ok nmX9 hown hK hP hD hS 6 xgTape rfl 8 (by decide) (hg _ w261) (fun _ h9 => h9) rfl (tyX9_ok 8 (by decide)) rfl rfl (Nat.le_of_ble_eq_true rfl) dX9_begin_116 (fun H locs hP hD hS => ?_)
        obtain ⟨V21, hV21⟩ : ∃ z, z = up2 V17 6 8 0 := ⟨_, rfl⟩
        have ew22 : (xw ad kk V17 L19 Z).set 6 ((ad 6), .inr (9, (xfTape ad V17 L19 Z).set 8 (.int 0))) = xw ad kk V21 L19 Z := by rw [hV21]; exact xw_ss (by decide) rfl (xb_si (by decide))
        have hP : va_P D vwCl (xw ad kk V21 L19 Z) H := by rw [← ew22]; exact hP
        have hD : va_D A (xw ad kk V21 L19 Z) := by rw [← ew22]; exact hD
        have hMV21 : rgd bX V21 := hMV17.put hV21 (by decide)
        have agV21 : agr [(6, 6), (6, 7), (6, 8), (6, 9), (6, 10)] [12, 13, 14] V V21 := agV17.up hV21 rfl
        refine lv_aload_n hx hb dX9_begin_119 rfl (lv_at hl 1 rfl) ?_
        have pq23 : (V21 6 8).toInt = 0 := (congrArg Int32.toInt (up2_s hV21)).trans (by decide)
        have pq24 : (V21 6 7).toInt = ((V6 6 7)).toInt := congrArg Int32.toInt ((up2_k hV21 (by decide)).trans ((up2_o hV17 (by decide)).trans (up2_o hV15 (by decide))))
        refine gA_void (gA_runV (As := []) (rest := []) (ci := 9) (q0 := 6) hx hb hml hown hg hP hD hK hS hA hnw hgk (x_next2 l D ks H.size ad kk V21 L19 Z  hMV21 (show (V21 6 8).toInt ≤ (V21 6 7).toInt from by first | exact om_ff3fc84f1c65 r12.1 pq23 pq24 | first | omega | ((try (have i_bp1 := Imp.go bp1 (by omega))); omega))) w851 w852 w853 w157 w854 rfl xgTape hdV_yX9_next ⟨Nat.le_of_ble_eq_true rfl, Nat.le_of_ble_eq_true rfl⟩ rfl hl.1 rfl (Nat.le_of_ble_eq_true rfl) dX9_begin_120 ⟨Nat.le_of_ble_eq_true rfl, Nat.le_of_ble_eq_true rfl⟩) hP hD hK hS hA (fun u26 H locs w27 hP hD hK hS => ?_)
        obtain ⟨V30, L31⟩ := u26
        obtain ⟨hMV30, ajV30, axL31, t28, t29⟩ := w27
        have alL31 : agL [6, 14] L L31 := agL.tr alL19 axL31 (by decide)
        have hP : va_P D vwCl (xw ad kk V30 L31 Z) H := hP
        have hD : va_D A (xw ad kk V30 L31 Z) := hD
        have hMV30 : rgd bX V30 := hMV30
        have ajV30 : agr [(6, 8), (6, 9), (6, 10)] [] V21 V30 := ajV30
        have agV30 : agr [(6, 6), (6, 7), (6, 8), (6, 9), (6, 10)] [12, 13, 14] V V30 := agV21.tr ajV30 (by decide) (by decide)
        have t28 : (V30 6 8).toInt ≤ (V30 6 7).toInt := t28
        have t29 : CUR V30 L31 (Int32.toNatClampNeg (V21 6 8)) := t29
        have r32 : 0 ≤ ((V30 6 8)).toInt ∧ ((V30 6 8)).toInt ≤ 4000 := hMV30 6 8
        have pq33 : (V30 6 7).toInt = ((V6 6 7)).toInt := congrArg Int32.toInt ((ajV30 6 7 rfl).trans ((up2_k hV21 (by decide)).trans ((up2_o hV17 (by decide)).trans (up2_o hV15 (by decide)))))
        have kz34 := i_clamp (x := V6 6 7) rfl (by (first | exact om_eafa9039069c r12.1 | omega))
        have hcu : CUR V30 L31 0 := by have z9 := t29; rw [up2_s hV21] at z9; exact z9
        have rp35 : CTE V L V30 L31 := CTE.mk xlp8_3 hV15 hV17 hL19 (by rw [(funext (fun q => ajV30 12 q rfl) : V30 12 = V21 12), (up2_fo hV21 (by decide) : V21 12 = V17 12)] : V30 12 = V17 12) (by rw [(funext (fun q => ajV30 13 q rfl) : V30 13 = V21 13), (up2_fo hV21 (by decide) : V21 13 = V17 13)] : V30 13 = V17 13) (funext (fun q => axL31 14 q rfl)) (show V30 6 7 = V6 6 7 from ((ajV30 6 7 rfl).trans ((up2_k hV21 (by decide)).trans ((up2_o hV17 (by decide)).trans (up2_o hV15 (by decide)))))) (show V30 6 6 = V6 6 6 from ((ajV30 6 6 rfl).trans ((up2_k hV21 (by decide)).trans ((up2_o hV17 (by decide)).trans (up2_o hV15 (by decide)))))) rfl (by (first | exact om_c098d3e04c36 r12.1 kz34 | omega)) (by (first | exact om_c0761f9775a3 xlp8_0 xlp8_2 pq9 r10.2 f14 | omega)) hcu
        exact W.vret hx hb hr (fun t ht hW => ⟨⟨(V30, L31), rfl, ⟨hMV30, agV30, alL31, (show (V30 6 8).toInt ≤ (V30 6 7).toInt from by first | exact om_f4906d00fa52 t28 | first | omega | ((try (have i_bp1 := Imp.go bp1 (by omega))); omega)), rp35⟩, by rw [ht]; exact hP, va_K.moved hW.alike hK, hD⟩, hS.F ht⟩) hS.2.2 dX9_begin_123
      · skip
        have f36 : y5.toInt < 4000 := b_nle (by decide) rfl c13
        refine lv_aload_n hx hb dX9_begin_19 rfl (lv_at hl 1 rfl) ?_
        refine va_get (D := D) (ci := 9) (v := .int (V6 6 6)) (fs := (xfTape ad V6 L7 Z)) (C := RX9) (T := TX9) (N := 12) hx hb hg inX9 hown hK hP 6 xgTape rfl 6 (by decide) (hg _ w259) (fun _ h9 => h9) rfl dX9_begin_20 ?_
        refine lv_aload_n hx hb dX9_begin_23 rfl (lv_at hl 1 rfl) ?_
        refine va_get (D := D) (ci := 9) (v := .int (V6 6 5)) (fs := (xfTape ad V6 L7 Z)) (C := RX9) (T := TX9) (N := 12) hx hb hg inX9 hown hK hP 6 xgTape rfl 5 (by decide) (hg _ w258) (fun _ h9 => h9) rfl dX9_begin_24 ?_
        refine g_top (v := (V 6 5)) ((ajV6 6 5 rfl).trans ((up2_k hV3 (by decide)).trans (up2_k hV1 (by decide)))) ?_
        refine lv_icmp_ge (tgt := 81) hx hb dX9_begin_27 (by decide) (fun c37 => ?_) (fun c37 => ?_)
        · skip
          have f38 : ((V 6 5)).toInt ≤ ((V6 6 6)).toInt := b_le rfl rfl c37
          refine lv_aload_n hx hb dX9_begin_81 rfl (lv_at hl 1 rfl) ?_
          refine va_get (D := D) (ci := 9) (v := .ref (ad 9)) (fs := (xfTape ad V6 L7 Z)) (C := RX9) (T := TX9) (N := 12) hx hb hg inX9 hown hK hP 6 xgTape rfl 2 (by decide) (hg _ w254) (fun _ h9 => h9) rfl dX9_begin_82 ?_
          refine lv_aload_n hx hb dX9_begin_85 rfl (lv_at hl 1 rfl) ?_
          refine va_get (D := D) (ci := 9) (v := .int (V6 6 7)) (fs := (xfTape ad V6 L7 Z)) (C := RX9) (T := TX9) (N := 12) hx hb hg inX9 hown hK hP 6 xgTape rfl 7 (by decide) (hg _ w260) (fun _ h9 => h9) rfl dX9_begin_86 ?_
          refine lv_iconst (v := 0) hx hb dX9_begin_89 (by decide) ?_
          refine va_iast (D := D) (i := (V6 6 7)) (x := 0) hx hb hK hP hD hS 9 2 rfl rfl (i_in (a := ((V6 6 7)).toInt) rfl (by first | exact om_fe84a465e0a9 xlp8_1 r12.1 f36 | first | omega | ((try (have i_bp1 := Imp.go bp1 (by omega))); omega))) dX9_begin_90 (fun H locs hP hD hS => ?_)
          obtain ⟨V39, hV39⟩ : ∃ z, z = up2 V6 12 (Int32.toNatClampNeg (V6 6 7)) 0 := ⟨_, rfl⟩
          have ew40 : (xw ad kk V6 L7 Z).set 9 ((ad 9), .inl ((kk 9), 4001, .inl (upd (V6 12) (Int32.toNatClampNeg (V6 6 7)) 0))) = xw ad kk V39 L7 Z := by rw [hV39]; exact xw_ss (by decide) rfl (xb_si (by decide))
          have hP : va_P D vwCl (xw ad kk V39 L7 Z) H := by rw [← ew40]; exact hP
          have hD : va_D A (xw ad kk V39 L7 Z) := by rw [← ew40]; exact hD
          have hMV39 : rgd bX V39 := hMV6.put hV39 (i_full _)
          have agV39 : agr [(6, 6), (6, 7), (6, 8), (6, 9), (6, 10)] [12, 13, 14] V V39 := agV6.up hV39 rfl
          refine lv_aload_n hx hb dX9_begin_91 rfl (lv_at hl 1 rfl) ?_
          refine va_get (D := D) (ci := 9) (v := .ref (ad 10)) (fs := (xfTape ad V39 L7 Z)) (C := RX9) (T := TX9) (N := 12) hx hb hg inX9 hown hK hP 6 xgTape rfl 3 (by decide) (hg _ w255) (fun _ h9 => h9) rfl dX9_begin_92 ?_
          refine lv_aload_n hx hb dX9_begin_95 rfl (lv_at hl 1 rfl) ?_
          refine va_get (D := D) (ci := 9) (v := .int (V39 6 7)) (fs := (xfTape ad V39 L7 Z)) (C := RX9) (T := TX9) (N := 12) hx hb hg inX9 hown hK hP 6 xgTape rfl 7 (by decide) (hg _ w260) (fun _ h9 => h9) rfl dX9_begin_96 ?_
          refine g_top (v := (V6 6 7)) (up2_o hV39 (by decide)) ?_
          refine lv_aload_n hx hb dX9_begin_99 rfl (lv_at hl 1 rfl) ?_
          refine va_get (D := D) (ci := 9) (v := .int (V39 6 5)) (fs := (xfTape ad V39 L7 Z)) (C := RX9) (T := TX9) (N := 12) hx hb hg inX9 hown hK hP 6 xgTape rfl 5 (by decide) (hg _ w258) (fun _ h9 => h9) rfl dX9_begin_100 ?_
          refine g_top (v := (V 6 5)) ((up2_o hV39 (by decide)).trans ((ajV6 6 5 rfl).trans ((up2_k hV3 (by decide)).trans (up2_k hV1 (by decide))))) ?_
          refine va_iast (D := D) (i := (V6 6 7)) (x := (V 6 5)) hx hb hK hP hD hS 10 3 rfl rfl (i_in (a := ((V6 6 7)).toInt) rfl (by first | exact om_fe84a465e0a9 xlp8_1 r12.1 f36 | first | omega | ((try (have i_bp1 := Imp.go bp1 (by omega))); omega))) dX9_begin_103 (fun H locs hP hD hS => ?_)
          obtain ⟨V41, hV41⟩ : ∃ z, z = up2 V39 13 (Int32.toNatClampNeg (V6 6 7)) (V 6 5) := ⟨_, rfl⟩
          have ew42 : (xw ad kk V39 L7 Z).set 10 ((ad 10), .inl ((kk 10), 4001, .inl (upd (V39 13) (Int32.toNatClampNeg (V6 6 7)) (V 6 5)))) = xw ad kk V41 L7 Z := by rw [hV41]; exact xw_ss (by decide) rfl (xb_si (by decide))
          have hP : va_P D vwCl (xw ad kk V41 L7 Z) H := by rw [← ew42]; exact hP
          have hD : va_D A (xw ad kk V41 L7 Z) := by rw [← ew42]; exact hD
          have hMV41 : rgd bX V41 := hMV39.put hV41 (show 0 ≤ ((V 6 5)).toInt ∧ ((V 6 5)).toInt ≤ 4000 from by first | exact om_d7d791e66fbf xlp8_0 pq9 r11.1 r11.2 f38 | first | omega | ((try (have i_bp1 := Imp.go bp1 (by omega))); omega))
          have agV41 : agr [(6, 6), (6, 7), (6, 8), (6, 9), (6, 10)] [12, 13, 14] V V41 := agV39.up hV41 rfl
          refine lv_aload_n hx hb dX9_begin_104 rfl (lv_at hl 1 rfl) ?_
          refine va_get (D := D) (ci := 9) (v := .ref (ad 11)) (fs := (xfTape ad V41 L7 Z)) (C := RX9) (T := TX9) (N := 12) hx hb hg inX9 hown hK hP 6 xgTape rfl 4 (by decide) (hg _ w256) (fun _ h9 => h9) rfl dX9_begin_105 ?_
          refine lv_aload_n hx hb dX9_begin_108 rfl (lv_at hl 1 rfl) ?_
          refine va_get (D := D) (ci := 9) (v := .int (V41 6 7)) (fs := (xfTape ad V41 L7 Z)) (C := RX9) (T := TX9) (N := 12) hx hb hg inX9 hown hK hP 6 xgTape rfl 7 (by decide) (hg _ w260) (fun _ h9 => h9) rfl dX9_begin_109 ?_
          refine g_top (v := (V6 6 7)) ((up2_o hV41 (by decide)).trans (up2_o hV39 (by decide))) ?_
          refine lv_lconst (v := 0) hx hb dX9_begin_112 (by decide) ?_
          refine va_last (D := D) (i := (V6 6 7)) (x := 0) hx hb hK hP hD hS 11 4 rfl rfl (i_in (a := ((V6 6 7)).toInt) rfl (by first | exact om_fe84a465e0a9 xlp8_1 r12.1 f36 | first | omega | ((try (have i_bp1 := Imp.go bp1 (by omega))); omega))) dX9_begin_113 (fun H locs hP hD hS => ?_)
          obtain ⟨L43, hL43⟩ : ∃ z, z = upL L7 14 (Int32.toNatClampNeg (V6 6 7)) 0 := ⟨_, rfl⟩
          have ew44 : (xw ad kk V41 L7 Z).set 11 ((ad 11), .inl ((kk 11), 4001, .inr (.inl (vp_updL (L7 14) (Int32.toNatClampNeg (V6 6 7)) 0)))) = xw ad kk V41 L43 Z := by rw [hL43]; exact xw_ss (by decide) rfl (fun j => xe_L (fun a => absurd a.1 (by decide)))
          have hP : va_P D vwCl (xw ad kk V41 L43 Z) H := by rw [← ew44]; exact hP
          have hD : va_D A (xw ad kk V41 L43 Z) := by rw [← ew44]; exact hD
          have alL43 : agL [6, 14] L L43 := agL.up alL7 hL43 rfl
          refine lv_aload_n hx hb dX9_begin_114 rfl (lv_at hl 1 rfl) ?_
          refine lv_iconst (v := 0) hx hb dX9_begin_115 (by decide) ?_
          refine va_put (D := D) (ci := 9) (v := .int 0) (ty := tyX9 8) (fs := (xfTape ad V41 L43 Z)) (C := RX9) (T := TX9) (N := 12) hx hb hg inX9 tyX9 tyX9_ok nmX9 hown hK hP hD hS 6 xgTape rfl 8 (by decide) (hg _ w261) (fun _ h9 => h9) rfl (tyX9_ok 8 (by decide)) rfl rfl (Nat.le_of_ble_eq_true rfl) dX9_begin_116 (fun H locs hP hD hS => ?_)
          obtain ⟨V45, hV45⟩ : ∃ z, z = up2 V41 6 8 0 := ⟨_, rfl⟩
          have ew46 : (xw ad kk V41 L43 Z).set 6 ((ad 6), .inr (9, (xfTape ad V41 L43 Z).set 8 (.int 0))) = xw ad kk V45 L43 Z := by rw [hV45]; exact xw_ss (by decide) rfl (xb_si (by decide))
          have hP : va_P D vwCl (xw ad kk V45 L43 Z) H := by rw [← ew46]; exact hP
          have hD : va_D A (xw ad kk V45 L43 Z) := by rw [← ew46]; exact hD
          have hMV45 : rgd bX V45 := hMV41.put hV45 (by decide)
          have agV45 : agr [(6, 6), (6, 7), (6, 8), (6, 9), (6, 10)] [12, 13, 14] V V45 := agV41.up hV45 rfl
          refine lv_aload_n hx hb dX9_begin_119 rfl (lv_at hl 1 rfl) ?_
          have pq47 : (V45 6 8).toInt = 0 := (congrArg Int32.toInt (up2_s hV45)).trans (by decide)
          have pq48 : (V45 6 7).toInt = ((V6 6 7)).toInt := congrArg Int32.toInt ((up2_k hV45 (by decide)).trans ((up2_o hV41 (by decide)).trans (up2_o hV39 (by decide))))
          refine gA_void (gA_runV (As := []) (rest := []) (ci := 9) (q0 := 6) hx hb hml hown hg hP hD hK hS hA hnw hgk (x_next2 l D ks H.size ad kk V45 L43 Z  hMV45 (show (V45 6 8).toInt ≤ (V45 6 7).toInt from by first | exact om_ff3fc84f1c65 r12.1 pq47 pq48 | first | omega | ((try (have i_bp1 := Imp.go bp1 (by omega))); omega))) w851 w852 w853 w157 w854 rfl xgTape hdV_yX9_next ⟨Nat.le_of_ble_eq_true rfl, Nat.le_of_ble_eq_true rfl⟩ rfl hl.1 rfl (Nat.le_of_ble_eq_true rfl) dX9_begin_120 ⟨Nat.le_of_ble_eq_true rfl, Nat.le_of_ble_eq_true rfl⟩) hP hD hK hS hA (fun u50 H locs w51 hP hD hK hS => ?_)
          obtain ⟨V54, L55⟩ := u50
          obtain ⟨hMV54, ajV54, axL55, t52, t53⟩ := w51
          have alL55 : agL [6, 14] L L55 := agL.tr alL43 axL55 (by decide)
          have hP : va_P D vwCl (xw ad kk V54 L55 Z) H := hP
          have hD : va_D A (xw ad kk V54 L55 Z) := hD
          have hMV54 : rgd bX V54 := hMV54
          have ajV54 : agr [(6, 8), (6, 9), (6, 10)] [] V45 V54 := ajV54
          have agV54 : agr [(6, 6), (6, 7), (6, 8), (6, 9), (6, 10)] [12, 13, 14] V V54 := agV45.tr ajV54 (by decide) (by decide)
          have t52 : (V54 6 8).toInt ≤ (V54 6 7).toInt := t52
          have t53 : CUR V54 L55 (Int32.toNatClampNeg (V45 6 8)) := t53
          have r56 : 0 ≤ ((V54 6 8)).toInt ∧ ((V54 6 8)).toInt ≤ 4000 := hMV54 6 8
          have pq57 : (V54 6 7).toInt = ((V6 6 7)).toInt := congrArg Int32.toInt ((ajV54 6 7 rfl).trans ((up2_k hV45 (by decide)).trans ((up2_o hV41 (by decide)).trans (up2_o hV39 (by decide)))))
          have kz58 := i_clamp (x := V6 6 7) rfl (by (first | exact om_eafa9039069c r12.1 | omega))
          have hcu : CUR V54 L55 0 := by have z9 := t53; rw [up2_s hV45] at z9; exact z9
          have rp59 : CTE V L V54 L55 := CTE.mk xlp8_3 hV39 hV41 hL43 (by rw [(funext (fun q => ajV54 12 q rfl) : V54 12 = V45 12), (up2_fo hV45 (by decide) : V45 12 = V41 12)] : V54 12 = V41 12) (by rw [(funext (fun q => ajV54 13 q rfl) : V54 13 = V45 13), (up2_fo hV45 (by decide) : V45 13 = V41 13)] : V54 13 = V41 13) (funext (fun q => axL55 14 q rfl)) (show V54 6 7 = V6 6 7 from ((ajV54 6 7 rfl).trans ((up2_k hV45 (by decide)).trans ((up2_o hV41 (by decide)).trans (up2_o hV39 (by decide)))))) (show V54 6 6 = V6 6 6 from ((ajV54 6 6 rfl).trans ((up2_k hV45 (by decide)).trans ((up2_o hV41 (by decide)).trans (up2_o hV39 (by decide)))))) rfl (by (first | exact om_c098d3e04c36 r12.1 kz58 | omega)) (by (first | exact om_8f99c9c57330 xlp8_0 pq9 f38 | omega)) hcu
          exact W.vret hx hb hr (fun t ht hW => ⟨⟨(V54, L55), rfl, ⟨hMV54, agV54, alL55, (show (V54 6 8).toInt ≤ (V54 6 7).toInt from by first | exact om_f4906d00fa52 t52 | first | omega | ((try (have i_bp1 := Imp.go bp1 (by omega))); omega)), rp59⟩, by rw [ht]; exact hP, va_K.moved hW.alike hK, hD⟩, hS.F ht⟩) hS.2.2 dX9_begin_123
        · skip
          have f60 : ((V6 6 6)).toInt < ((V 6 5)).toInt := b_nle rfl rfl c37
          refine lv_aload_n hx hb dX9_begin_30 rfl (lv_at hl 1 rfl) ?_
          refine va_get (D := D) (ci := 9) (v := .ref (ad 7)) (fs := (xfTape ad V6 L7 Z)) (C := RX9) (T := TX9) (N := 12) hx hb hg inX9 hown hK hP 6 xgTape rfl 0 (by decide) (hg _ w252) (fun _ h9 => h9) rfl dX9_begin_31 ?_
          refine lv_aload_n hx hb dX9_begin_34 rfl (lv_at hl 1 rfl) ?_
          refine va_get (D := D) (ci := 9) (v := .int (V6 6 6)) (fs := (xfTape ad V6 L7 Z)) (C := RX9) (T := TX9) (N := 12) hx hb hg inX9 hown hK hP 6 xgTape rfl 6 (by decide) (hg _ w259) (fun _ h9 => h9) rfl dX9_begin_35 ?_
          refine va_bald (D := D) (i := (V6 6 6)) hx hb hK hP 7 0 rfl rfl (i_in (a := ((V6 6 6)).toInt) rfl (by first | exact om_ae1ad81edeff r10.2 r11.1 f60 | first | omega | ((try (have i_bp1 := Imp.go bp1 (by omega))); omega))) dX9_begin_38 ?_
          refine g_top (v := (V 10 (Int32.toNatClampNeg (V6 6 6)))) ((ajV6 10 (Int32.toNatClampNeg (V6 6 6)) rfl).trans ((up2_o hV3 (by decide)).trans (up2_o hV1 (by decide)))) ?_
          refine lv_bipush (v := 32) hx hb dX9_begin_39 (by decide) ?_
          refine lv_icmp_eq (tgt := 58) hx hb dX9_begin_41 (by decide) (fun c61 => ?_) (fun c61 => ?_)
          · skip
            have f62 : ((V 10 (Int32.toNatClampNeg (V6 6 6)))).toInt = 32 := b_eq rfl (by decide) c61
            refine lv_aload_n hx hb dX9_begin_58 rfl (lv_at hl 1 rfl) ?_
            refine lv_dup hx hb dX9_begin_59 rfl ?_
            refine va_get (D := D) (ci := 9) (v := .int (V6 6 6)) (fs := (xfTape ad V6 L7 Z)) (C := RX9) (T := TX9) (N := 12) hx hb hg inX9 hown hK hP 6 xgTape rfl 6 (by decide) (hg _ w259) (fun _ h9 => h9) rfl dX9_begin_60 ?_
            refine lv_iconst (v := 1) hx hb dX9_begin_63 (by decide) ?_
            refine lv_iadd hx hb dX9_begin_64 ?_
            refine lv_topi (fun z63 ez63 => ?_)
            have hz63 : z63.toInt = ((V6 6 6)).toInt + 1 := i_add ez63 rfl (by decide) (by (first | exact om_60388b098aab r10.2 r11.1 f60 | omega))
            refine va_put (D := D) (ci := 9) (v := .int z63) (ty := tyX9 6) (fs := (xfTape ad V6 L7 Z)) (C := RX9) (T := TX9) (N := 12) hx hb hg inX9 tyX9 tyX9_ok nmX9 hown hK hP hD hS 6 xgTape rfl 6 (by decide) (hg _ w259) (fun _ h9 => h9) rfl (tyX9_ok 6 (by decide)) rfl rfl (Nat.le_of_ble_eq_true rfl) dX9_begin_65 (fun H locs hP hD hS => ?_)
            obtain ⟨V64, hV64⟩ : ∃ z, z = up2 V6 6 6 z63 := ⟨_, rfl⟩
            have ew65 : (xw ad kk V6 L7 Z).set 6 ((ad 6), .inr (9, (xfTape ad V6 L7 Z).set 6 (.int z63))) = xw ad kk V64 L7 Z := by rw [hV64]; exact xw_ss (by decide) rfl (xb_si (by decide))
            have hP : va_P D vwCl (xw ad kk V64 L7 Z) H := by rw [← ew65]; exact hP
            have hD : va_D A (xw ad kk V64 L7 Z) := by rw [← ew65]; exact hD
            have hMV64 : rgd bX V64 := hMV6.put hV64 (show 0 ≤ z63.toInt ∧ z63.toInt ≤ 4000 from by first | exact om_e23ddeb43246 r10.2 r11.1 f60 hz63 | first | omega | ((try (have i_bp1 := Imp.go bp1 (by omega))); omega))
            have agV64 : agr [(6, 6), (6, 7), (6, 8), (6, 9), (6, 10)] [12, 13, 14] V V64 := agV6.up hV64 rfl
            refine lv_goto (tgt := 75) hx hb dX9_begin_68 (by decide) ?_
            obtain ⟨z66, ez66⟩ : ∃ y : Int32, y = y5 + 1 := ⟨_, rfl⟩
            have hz66 : z66.toInt = y5.toInt + 1 := i_add ez66 rfl (by decide) (by (first | exact om_67c6ad613360 klp8_0.1 f36 | omega))
            refine lv_iinc (v := z66) (lv' := [(1, .int z66), (0, .ref (ad 6))]) hx hb dX9_begin_75 hl (k := 0) rfl (by rw [ez66]; rfl) (by decide) rfl (fun ls hl => ?_)
            refine lv_goto (tgt := 12) hx hb dX9_begin_78 (by decide) ?_
            have pq67 : (V64 6 5).toInt = ((V 6 5)).toInt := congrArg Int32.toInt ((up2_k hV64 (by decide)).trans ((ajV6 6 5 rfl).trans ((up2_k hV3 (by decide)).trans (up2_k hV1 (by decide)))))
            have pq68 : (V64 6 6).toInt = z63.toInt := congrArg Int32.toInt (up2_s hV64)
            have pq69 : (V64 6 7).toInt = ((V6 6 7)).toInt := congrArg Int32.toInt (up2_k hV64 (by decide))
            have kz70 := i_clamp (x := V6 6 6) rfl (by (first | exact om_eafa9039069c r11.1 | omega))
            have ez71 : (V6 6 6).toInt.toNat = Int32.toNatClampNeg (V6 6 6) := by (first | exact om_14d446f7993c r11.1 kz70 | omega)
            exact ihlp8 z66 V64 L7 H locs ls (by first | exact om_a72129a5d0e7 klp8_0.1 xlp8_2 r10.2 f60 hz66 | first | omega | ((try (have i_bp1 := Imp.go bp1 (by omega))); omega)) (show (V64 6 6).toInt ≤ (V64 6 5).toInt from by first | exact om_1257dc0753d6 f60 hz63 pq67 pq68 | first | omega | ((try (have i_bp1 := Imp.go bp1 (by omega))); omega)) (show (V64 6 7).toInt ≤ z66.toInt from by first | exact om_2cb4eafcf217 xlp8_1 hz66 pq69 | first | omega | ((try (have i_bp1 := Imp.go bp1 (by omega))); omega)) (show z66.toInt ≤ (V64 6 6).toInt from by first | exact om_ce335f784295 xlp8_2 hz63 hz66 pq68 | first | omega | ((try (have i_bp1 := Imp.go bp1 (by omega))); omega)) (CT.bl xlp8_3 hV64 (by first | exact om_55c67efb91e5 hz63 | first | omega | ((try (have i_bp1 := Imp.go bp1 (by omega))); omega)) (by (first | exact om_eafa9039069c r11.1 | omega)) (by (first | exact om_0e9116797efb f60 | omega)) (by rw [ez71]; unfold isBl; omega)) (by first | exact om_7390df9cc880 hn hz66 | first | omega | ((try (have i_bp1 := Imp.go bp1 (by omega))); omega)) alL7 (agr.up (agr.tr agr.rf ajV6 (by decide) (by decide)) hV64 rfl) hMV64 hP hD hS (lv_sub hl [0, 1] rfl)
          · skip
            have f72 : ((V 10 (Int32.toNatClampNeg (V6 6 6)))).toInt ≠ 32 := b_neq rfl (by decide) c61
            refine lv_aload_n hx hb dX9_begin_44 rfl (lv_at hl 1 rfl) ?_
            refine va_get (D := D) (ci := 9) (v := .ref (ad 7)) (fs := (xfTape ad V6 L7 Z)) (C := RX9) (T := TX9) (N := 12) hx hb hg inX9 hown hK hP 6 xgTape rfl 0 (by decide) (hg _ w252) (fun _ h9 => h9) rfl dX9_begin_45 ?_
            refine lv_aload_n hx hb dX9_begin_48 rfl (lv_at hl 1 rfl) ?_
            refine va_get (D := D) (ci := 9) (v := .int (V6 6 6)) (fs := (xfTape ad V6 L7 Z)) (C := RX9) (T := TX9) (N := 12) hx hb hg inX9 hown hK hP 6 xgTape rfl 6 (by decide) (hg _ w259) (fun _ h9 => h9) rfl dX9_begin_49 ?_
            refine va_bald (D := D) (i := (V6 6 6)) hx hb hK hP 7 0 rfl rfl (i_in (a := ((V6 6 6)).toInt) rfl (by first | exact om_ae1ad81edeff r10.2 r11.1 f60 | first | omega | ((try (have i_bp1 := Imp.go bp1 (by omega))); omega))) dX9_begin_52 ?_
            refine g_top (v := (V 10 (Int32.toNatClampNeg (V6 6 6)))) ((ajV6 10 (Int32.toNatClampNeg (V6 6 6)) rfl).trans ((up2_o hV3 (by decide)).trans (up2_o hV1 (by decide)))) ?_
            refine lv_bipush (v := 10) hx hb dX9_begin_53 (by decide) ?_
            refine lv_icmp_ne (tgt := 71) hx hb dX9_begin_55 (by decide) (fun c73 => ?_) (fun c73 => ?_)
            · skip
              have f74 : ((V 10 (Int32.toNatClampNeg (V6 6 6)))).toInt ≠ 10 := b_neq rfl (by decide) c73
              refine lv_aload_n hx hb dX9_begin_71 rfl (lv_at hl 1 rfl) ?_
              refine gA_void (gA_runV (As := []) (rest := []) (ci := 9) (q0 := 6) hx hb hml hown hg hP hD hK hS hA hnw hgk (x_cut2 l D ks H.size ad kk V6 L7 Z ((V6 6 6).toInt.toNat) hMV6 (show (V6 6 6).toInt < (V6 6 5).toInt from by first | exact om_f33e638bd498 pq9 f60 | first | omega | ((try (have i_bp1 := Imp.go bp1 (by omega))); omega)) (show (V6 6 7).toInt ≤ 3999 from by first | exact om_43b3f9a4c39f xlp8_1 f36 | first | omega | ((try (have i_bp1 := Imp.go bp1 (by omega))); omega)) (show (V6 6 6).toInt = (((V6 6 6).toInt.toNat) : Int) from by first | exact om_bb68b85f87a5 r11.1 | first | omega | ((try (have i_bp1 := Imp.go bp1 (by omega))); omega)) (by rw [(by rw [(funext (fun q => ajV6 10 q rfl) : V6 10 = V3 10), (up2_fo hV3 (by decide) : V3 10 = V1 10), (up2_fo hV1 (by decide) : V1 10 = V 10)] : V6 10 = V 10)]; exact bp1 _ (by omega))) w770 w772 w0 w157 w773 rfl xgTape hdV_yX9_cut ⟨Nat.le_of_ble_eq_true rfl, Nat.le_of_ble_eq_true rfl⟩ rfl hl.1 rfl (Nat.le_of_ble_eq_true rfl) dX9_begin_72 ⟨Nat.le_of_ble_eq_true rfl, Nat.le_of_ble_eq_true rfl⟩) hP hD hK hS hA (fun u76 H locs w77 hP hD hK hS => ?_)
              obtain ⟨V82, L83⟩ := u76
              obtain ⟨hMV82, ajV82, axL83, t78, t79, t80, t81⟩ := w77
              have alL83 : agL [6, 14] L L83 := agL.tr alL7 axL83 (by decide)
              have hP : va_P D vwCl (xw ad kk V82 L83 Z) H := hP
              have hD : va_D A (xw ad kk V82 L83 Z) := hD
              have hMV82 : rgd bX V82 := hMV82
              have ajV82 : agr [(6, 6), (6, 7)] [12, 13, 14] V6 V82 := ajV82
              have agV82 : agr [(6, 6), (6, 7), (6, 8), (6, 9), (6, 10)] [12, 13, 14] V V82 := agV6.tr ajV82 (by decide) (by decide)
              have t78 : (V82 6 6).toInt ≤ (V82 6 5).toInt := t78
              have t79 : (V82 6 7).toInt = (V6 6 7).toInt + 1 := t79
              have t80 : CUT V6 V82 L7 L83 ((V6 6 6).toInt.toNat) (Int32.toNatClampNeg (V6 6 7)) := t80
              have t81 : (V6 6 6).toInt + 1 ≤ (V82 6 6).toInt := t81
              have pq84 : (V82 6 5).toInt = ((V 6 5)).toInt := congrArg Int32.toInt ((ajV82 6 5 rfl).trans ((ajV6 6 5 rfl).trans ((up2_k hV3 (by decide)).trans (up2_k hV1 (by decide)))))
              have r85 : 0 ≤ ((V82 6 6)).toInt ∧ ((V82 6 6)).toInt ≤ 4000 := hMV82 6 6
              have r86 : 0 ≤ ((V82 6 7)).toInt ∧ ((V82 6 7)).toInt ≤ 4000 := hMV82 6 7
              obtain ⟨z87, ez87⟩ : ∃ y : Int32, y = y5 + 1 := ⟨_, rfl⟩
              have hz87 : z87.toInt = y5.toInt + 1 := i_add ez87 rfl (by decide) (by (first | exact om_b5e2203eea92 xlp8_1 r12.1 f36 | omega))
              refine lv_iinc (v := z87) (lv' := [(1, .int z87), (0, .ref (ad 6))]) hx hb dX9_begin_75 hl (k := 0) rfl (by rw [ez87]; rfl) (by decide) rfl (fun ls hl => ?_)
              refine lv_goto (tgt := 12) hx hb dX9_begin_78 (by decide) ?_
              have kz88 := i_clamp (x := V6 6 6) rfl (by (first | exact om_4f46abbfee0e xlp8_1 xlp8_2 r12.1 | omega))
              have ez89 : (V6 6 6).toInt.toNat = Int32.toNatClampNeg (V6 6 6) := by (first | exact om_2b3171b6437e xlp8_1 xlp8_2 r12.1 kz88 | omega)
              have kz90 := i_clamp (x := V6 6 7) rfl (by (first | exact om_eafa9039069c r12.1 | omega))
              exact ihlp8 z87 V82 L83 H locs ls (by first | exact om_d05bf1274801 klp8_0.1 xlp8_2 t81 r85.2 hz87 | first | omega | ((try (have i_bp1 := Imp.go bp1 (by omega))); omega)) (show (V82 6 6).toInt ≤ (V82 6 5).toInt from by first | exact om_f4906d00fa52 t78 | first | omega | ((try (have i_bp1 := Imp.go bp1 (by omega))); omega)) (show (V82 6 7).toInt ≤ z87.toInt from by first | exact om_953ed16b636a xlp8_1 t79 hz87 | first | omega | ((try (have i_bp1 := Imp.go bp1 (by omega))); omega)) (show z87.toInt ≤ (V82 6 6).toInt from by first | exact om_9040f9b0dfde xlp8_2 t81 hz87 | first | omega | ((try (have i_bp1 := Imp.go bp1 (by omega))); omega)) (CT.tk xlp8_3 t80 (by (first | exact om_c098d3e04c36 r12.1 kz90 | omega)) (by (first | exact om_55c67efb91e5 t79 | omega)) (by (first | exact om_eafa9039069c r12.1 | omega)) (by rw [(funext (fun q => ajV6 10 q rfl) : V6 10 = V3 10), (up2_fo hV3 (by decide) : V3 10 = V1 10), (up2_fo hV1 (by decide) : V1 10 = V 10)] : V6 10 = V 10) (show V6 6 5 = V 6 5 from ((ajV6 6 5 rfl).trans ((up2_k hV3 (by decide)).trans (up2_k hV1 (by decide))))) (funext (fun q => alL7 11 q rfl)) (by rw [ez89]; unfold isBl; omega)) (by first | exact om_7390df9cc880 hn hz87 | first | omega | ((try (have i_bp1 := Imp.go bp1 (by omega))); omega)) alL83 (agr.tr (agr.tr agr.rf ajV6 (by decide) (by decide)) ajV82 (by decide) (by decide)) hMV82 hP hD hS (lv_sub hl [0, 1] rfl)
            · skip
              have f91 : ((V 10 (Int32.toNatClampNeg (V6 6 6)))).toInt = 10 := b_eq rfl (by decide) c73
              refine lv_aload_n hx hb dX9_begin_58 rfl (lv_at hl 1 rfl) ?_
              refine lv_dup hx hb dX9_begin_59 rfl ?_
              refine va_get (D := D) (ci := 9) (v := .int (V6 6 6)) (fs := (xfTape ad V6 L7 Z)) (C := RX9) (T := TX9) (N := 12) hx hb hg inX9 hown hK hP 6 xgTape rfl 6 (by decide) (hg _ w259) (fun _ h9 => h9) rfl dX9_begin_60 ?_
              refine lv_iconst (v := 1) hx hb dX9_begin_63 (by decide) ?_
              refine lv_iadd hx hb dX9_begin_64 ?_
              refine lv_topi (fun z92 ez92 => ?_)
              have hz92 : z92.toInt = ((V6 6 6)).toInt + 1 := i_add ez92 rfl (by decide) (by (first | exact om_60388b098aab r10.2 r11.1 f60 | omega))
              refine va_put (D := D) (ci := 9) (v := .int z92) (ty := tyX9 6) (fs := (xfTape ad V6 L7 Z)) (C := RX9) (T := TX9) (N := 12) hx hb hg inX9 tyX9 tyX9_ok nmX9 hown hK hP hD hS 6 xgTape rfl 6 (by decide) (hg _ w259) (fun _ h9 => h9) rfl (tyX9_ok 6 (by decide)) rfl rfl (Nat.le_of_ble_eq_true rfl) dX9_begin_65 (fun H locs hP hD hS => ?_)
              obtain ⟨V93, hV93⟩ : ∃ z, z = up2 V6 6 6 z92 := ⟨_, rfl⟩
              have ew94 : (xw ad kk V6 L7 Z).set 6 ((ad 6), .inr (9, (xfTape ad V6 L7 Z).set 6 (.int z92))) = xw ad kk V93 L7 Z := by rw [hV93]; exact xw_ss (by decide) rfl (xb_si (by decide))
              have hP : va_P D vwCl (xw ad kk V93 L7 Z) H := by rw [← ew94]; exact hP
              have hD : va_D A (xw ad kk V93 L7 Z) := by rw [← ew94]; exact hD
              have hMV93 : rgd bX V93 := hMV6.put hV93 (show 0 ≤ z92.toInt ∧ z92.toInt ≤ 4000 from by first | exact om_e23ddeb43246 r10.2 r11.1 f60 hz92 | first | omega | ((try (have i_bp1 := Imp.go bp1 (by omega))); omega))
              have agV93 : agr [(6, 6), (6, 7), (6, 8), (6, 9), (6, 10)] [12, 13, 14] V V93 := agV6.up hV93 rfl
              refine lv_goto (tgt := 75) hx hb dX9_begin_68 (by decide) ?_
              obtain ⟨z95, ez95⟩ : ∃ y : Int32, y = y5 + 1 := ⟨_, rfl⟩
              have hz95 : z95.toInt = y5.toInt + 1 := i_add ez95 rfl (by decide) (by (first | exact om_67c6ad613360 klp8_0.1 f36 | omega))
              refine lv_iinc (v := z95) (lv' := [(1, .int z95), (0, .ref (ad 6))]) hx hb dX9_begin_75 hl (k := 0) rfl (by rw [ez95]; rfl) (by decide) rfl (fun ls hl => ?_)
              refine lv_goto (tgt := 12) hx hb dX9_begin_78 (by decide) ?_
              have pq96 : (V93 6 5).toInt = ((V 6 5)).toInt := congrArg Int32.toInt ((up2_k hV93 (by decide)).trans ((ajV6 6 5 rfl).trans ((up2_k hV3 (by decide)).trans (up2_k hV1 (by decide)))))
              have pq97 : (V93 6 6).toInt = z92.toInt := congrArg Int32.toInt (up2_s hV93)
              have pq98 : (V93 6 7).toInt = ((V6 6 7)).toInt := congrArg Int32.toInt (up2_k hV93 (by decide))
              have kz99 := i_clamp (x := V6 6 6) rfl (by (first | exact om_eafa9039069c r11.1 | omega))
              have ez100 : (V6 6 6).toInt.toNat = Int32.toNatClampNeg (V6 6 6) := by (first | exact om_14d446f7993c r11.1 kz99 | omega)
              exact ihlp8 z95 V93 L7 H locs ls (by first | exact om_a72129a5d0e7 klp8_0.1 xlp8_2 r10.2 f60 hz95 | first | omega | ((try (have i_bp1 := Imp.go bp1 (by omega))); omega)) (show (V93 6 6).toInt ≤ (V93 6 5).toInt from by first | exact om_1257dc0753d6 f60 hz92 pq96 pq97 | first | omega | ((try (have i_bp1 := Imp.go bp1 (by omega))); omega)) (show (V93 6 7).toInt ≤ z95.toInt from by first | exact om_2cb4eafcf217 xlp8_1 hz95 pq98 | first | omega | ((try (have i_bp1 := Imp.go bp1 (by omega))); omega)) (show z95.toInt ≤ (V93 6 6).toInt from by first | exact om_ce335f784295 xlp8_2 hz92 hz95 pq97 | first | omega | ((try (have i_bp1 := Imp.go bp1 (by omega))); omega)) (CT.bl xlp8_3 hV93 (by first | exact om_55c67efb91e5 hz92 | first | omega | ((try (have i_bp1 := Imp.go bp1 (by omega))); omega)) (by (first | exact om_eafa9039069c r11.1 | omega)) (by (first | exact om_0e9116797efb f60 | omega)) (by rw [ez100]; unfold isBl; omega)) (by first | exact om_7390df9cc880 hn hz95 | first | omega | ((try (have i_bp1 := Imp.go bp1 (by omega))); omega)) alL7 (agr.up (agr.tr agr.rf ajV6 (by decide) (by decide)) hV93 rfl) hMV93 hP hD hS (lv_sub hl [0, 1] rfl)
  have r101 : Int32.toInt 0 = 0 := by decide
  have pq102 : (V3 6 5).toInt = ((V 6 5)).toInt := congrArg Int32.toInt ((up2_k hV3 (by decide)).trans (up2_k hV1 (by decide)))
  have r103 : 0 ≤ ((V 6 5)).toInt ∧ ((V 6 5)).toInt ≤ 4000 := hMV 6 5
  have pq104 : (V3 6 6).toInt = 0 := (congrArg Int32.toInt ((up2_k hV3 (by decide)).trans (up2_s hV1))).trans (by decide)
  have pq105 : (V3 6 7).toInt = 0 := (congrArg Int32.toInt (up2_s hV3)).trans (by decide)
  exact lp8 ((4000 - (Int32.toInt 0) + 1 : Int).toNat) 0 V3 L H locs ls (by decide) (show (V3 6 6).toInt ≤ (V3 6 5).toInt from by first | exact om_b0eb2bb83bb7 pq102 r103.1 pq104 | first | omega | ((try (have i_bp1 := Imp.go bp1 (by omega))); omega)) (show (V3 6 7).toInt ≤ (Int32.toInt 0) from by first | exact om_0df9ae17f00b r101 pq105 | first | omega | ((try (have i_bp1 := Imp.go bp1 (by omega))); omega)) (show (Int32.toInt 0) ≤ (V3 6 6).toInt from by first | exact om_4f4755e15199 r101 pq104 | first | omega | ((try (have i_bp1 := Imp.go bp1 (by omega))); omega)) (CT.z (by omega) (by omega)) (by first | exact om_be7e3b1de7fd | first | omega | ((try (have i_bp1 := Imp.go bp1 (by omega))); omega)) alL agr.rf hMV3 hP hD hS (lv_sub hl [0, 1] rfl)
end
