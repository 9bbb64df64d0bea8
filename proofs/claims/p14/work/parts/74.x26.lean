/-! the links grow -/
def lnz (V : Vf) (n : Nat) : Vf := fun c => if c = 31 then va_cpy (V 31) (fun _ => 0) 0 0 n else if c = 32 then va_cpy (V 32) (fun _ => 0) 0 0 n else V c
def XZ.grow (Z : XZ) (q1 q2 : Nat) (c1 c2 : ClassId) : XZ := (Z.fa, Z.nf, q1, q2, c1, c2, 2 * Z.ln)
theorem lnz_o {V : Vf} {n c : Nat} (h : c ≠ 31 ∧ c ≠ 32) : lnz V n c = V c := by
  unfold lnz
  rw [if_neg h.1, if_neg h.2]
theorem cpy_in {f : Nat → Int32} {n k : Nat} : va_cpy f (fun _ => 0) 0 0 n k = if k < n then f k else 0 := by
  unfold va_cpy
  by_cases h : k < n
  · rw [if_pos ⟨Nat.zero_le _, by omega⟩, if_pos h]
    congr 1
    omega
  · rw [if_neg (by omega), if_neg h]
theorem lnz_32 {V : Vf} {n k : Nat} : lnz V n 32 k = if k < n then V 32 k else 0 := cpy_in
theorem lnz_31 {V : Vf} {n k : Nat} : lnz V n 31 k = if k < n then V 31 k else 0 := cpy_in
theorem rgd_lnz {V : Vf} {n : Nat} (h : rgd bX V) : rgd bX (lnz V n) := by
  intro c k
  by_cases h1 : c = 31
  · subst h1
    exact i_full _
  · by_cases h2 : c = 32
    · subst h2
      rw [lnz_32]
      by_cases h3 : k < n
      · rw [if_pos h3]; exact h 32 k
      · rw [if_neg h3]
        exact ⟨(show ((-1) : Int) ≤ Int32.toInt 0 from by decide), (show Int32.toInt 0 ≤ (262143 : Int) from by decide)⟩
    · rw [lnz_o ⟨h1, h2⟩]; exact h c k
theorem lnz_ag {V : Vf} {n : Nat} : agr [] [31, 32] V (lnz V n) := by
  intro c k h
  have h1 : c ≠ 31 := fun e => by subst e; exact Bool.noConfusion (show true = false from h)
  have h2 : c ≠ 32 := fun e => by subst e; exact Bool.noConfusion (show true = false from h)
  rw [lnz_o ⟨h1, h2⟩]
theorem xb_lnz {ad : Nat → Nat} {kk : Nat → ClassId} {V : Vf} {L : Lf} {Z : XZ} {q1 q2 : Nat} {c1 c2 : ClassId} {j m : Nat} : xb ad kk (lnz V m) L (Z.grow q1 q2 c1 c2) j = xb ad kk V L Z j := by
  unfold xb
  by_cases h0 : j < 2
  · rw [if_pos h0, if_pos h0]
    show xeBook ad kk (lnz V m) L (Z.grow q1 q2 c1 c2) _ = xeBook ad kk V L Z _
    unfold xeBook xfBook
    rw [lnz_o (V := V) (n := m) (c := 41) (by decide), lnz_o (V := V) (n := m) (c := 42) (by decide)]
  rw [if_neg h0, if_neg h0]
  by_cases h2 : j < 12
  · rw [if_pos h2, if_pos h2]
    show xeNames ad kk (lnz V m) L (Z.grow q1 q2 c1 c2) _ = xeNames ad kk V L Z _
    unfold xeNames xfNames
    rw [lnz_o (V := V) (n := m) (c := 43) (by decide)]
  rw [if_neg h2, if_neg h2]
  by_cases h12 : j < 22
  · rw [if_pos h12, if_pos h12]
    rfl
  rw [if_neg h12, if_neg h12]
  by_cases h22 : j < 24
  · rw [if_pos h22, if_pos h22]
    show xetypeUnder ad kk (lnz V m) L (Z.grow q1 q2 c1 c2) _ = xetypeUnder ad kk V L Z _
    unfold xetypeUnder
    rw [lnz_o (V := V) (n := m) (c := 45) (by decide)]
  rw [if_neg h22, if_neg h22]
  by_cases h24 : j < 26
  · rw [if_pos h24, if_pos h24]
    show xesettingValues ad kk (lnz V m) L (Z.grow q1 q2 c1 c2) _ = xesettingValues ad kk V L Z _
    unfold xesettingValues
    rw [lnz_o (V := V) (n := m) (c := 46) (by decide)]
  rw [if_neg h24, if_neg h24]
  by_cases h26 : j < 28
  · rw [if_pos h26, if_pos h26]
    rfl
  rw [if_neg h26, if_neg h26]
  by_cases h28 : j < 30
  · rw [if_pos h28, if_pos h28]
    rfl
  rw [if_neg h28, if_neg h28]
  by_cases h30 : j < 32
  · rw [if_pos h30, if_pos h30]
    show xewrapOrder ad kk (lnz V m) L (Z.grow q1 q2 c1 c2) _ = xewrapOrder ad kk V L Z _
    unfold xewrapOrder
    rw [lnz_o (V := V) (n := m) (c := 47) (by decide)]
  rw [if_neg h30, if_neg h30]
  by_cases h32 : j < 34
  · rw [if_pos h32, if_pos h32]
    show xecode ad kk (lnz V m) L (Z.grow q1 q2 c1 c2) _ = xecode ad kk V L Z _
    unfold xecode
    rw [lnz_o (V := V) (n := m) (c := 48) (by decide)]
  rw [if_neg h32, if_neg h32]
  by_cases h34 : j < 82
  · rw [if_pos h34, if_pos h34]
    show xeComp ad kk (lnz V m) L (Z.grow q1 q2 c1 c2) _ = xeComp ad kk V L Z _
    unfold xeComp xfComp
    rw [lnz_o (V := V) (n := m) (c := 49) (by decide), lnz_o (V := V) (n := m) (c := 50) (by decide), lnz_o (V := V) (n := m) (c := 51) (by decide), lnz_o (V := V) (n := m) (c := 52) (by decide), lnz_o (V := V) (n := m) (c := 53) (by decide), lnz_o (V := V) (n := m) (c := 54) (by decide), lnz_o (V := V) (n := m) (c := 55) (by decide), lnz_o (V := V) (n := m) (c := 56) (by decide), lnz_o (V := V) (n := m) (c := 57) (by decide)]
  rw [if_neg h34, if_neg h34]
  by_cases h82 : j < 130
  · rw [if_pos h82, if_pos h82]
    show xeneedTypes ad kk (lnz V m) L (Z.grow q1 q2 c1 c2) _ = xeneedTypes ad kk V L Z _
    unfold xeneedTypes
    rw [lnz_o (V := V) (n := m) (c := 58) (by decide)]
  rw [if_neg h82, if_neg h82]
  by_cases h130 : j < 178
  · rw [if_pos h130, if_pos h130]
    show xeneedWords ad kk (lnz V m) L (Z.grow q1 q2 c1 c2) _ = xeneedWords ad kk V L Z _
    unfold xeneedWords
    rw [lnz_o (V := V) (n := m) (c := 59) (by decide)]
  rw [if_neg h130, if_neg h130]
  by_cases h178 : j < 226
  · rw [if_pos h178, if_pos h178]
    show xeneedKinds ad kk (lnz V m) L (Z.grow q1 q2 c1 c2) _ = xeneedKinds ad kk V L Z _
    unfold xeneedKinds
    rw [lnz_o (V := V) (n := m) (c := 60) (by decide)]
  rw [if_neg h178, if_neg h178]
  by_cases h226 : j < 274
  · rw [if_pos h226, if_pos h226]
    show xemethodStarts ad kk (lnz V m) L (Z.grow q1 q2 c1 c2) _ = xemethodStarts ad kk V L Z _
    unfold xemethodStarts
    rw [lnz_o (V := V) (n := m) (c := 61) (by decide)]
  rw [if_neg h226, if_neg h226]
  by_cases h274 : j < 298
  · rw [if_pos h274, if_pos h274]
    show xeWrap ad kk (lnz V m) L (Z.grow q1 q2 c1 c2) _ = xeWrap ad kk V L Z _
    unfold xeWrap xfWrap
    rw [lnz_o (V := V) (n := m) (c := 62) (by decide), lnz_o (V := V) (n := m) (c := 63) (by decide), lnz_o (V := V) (n := m) (c := 64) (by decide), lnz_o (V := V) (n := m) (c := 65) (by decide), lnz_o (V := V) (n := m) (c := 66) (by decide)]
  rw [if_neg h274, if_neg h274]
  show xeFrame ad kk (lnz V m) L (Z.grow q1 q2 c1 c2) _ = xeFrame ad kk V L Z _
  unfold xeFrame xfFrame
  rw [lnz_o (V := V) (n := m) (c := 67) (by decide), lnz_o (V := V) (n := m) (c := 68) (by decide), lnz_o (V := V) (n := m) (c := 69) (by decide), lnz_o (V := V) (n := m) (c := 70) (by decide), lnz_o (V := V) (n := m) (c := 71) (by decide), lnz_o (V := V) (n := m) (c := 72) (by decide), lnz_o (V := V) (n := m) (c := 73) (by decide), lnz_o (V := V) (n := m) (c := 74) (by decide), lnz_o (V := V) (n := m) (c := 75) (by decide), lnz_o (V := V) (n := m) (c := 76) (by decide), lnz_o (V := V) (n := m) (c := 77) (by decide), lnz_o (V := V) (n := m) (c := 78) (by decide), lnz_o (V := V) (n := m) (c := 79) (by decide), lnz_o (V := V) (n := m) (c := 80) (by decide), lnz_o (V := V) (n := m) (c := 81) (by decide), lnz_o (V := V) (n := m) (c := 82) (by decide), lnz_o (V := V) (n := m) (c := 83) (by decide), lnz_o (V := V) (n := m) (c := 84) (by decide), lnz_o (V := V) (n := m) (c := 85) (by decide)]
  rfl
theorem xs_lnz {ad : Nat → Nat} {kk : Nat → ClassId} {V : Vf} {L : Lf} {Z : XZ} {q1 q2 : Nat} {c1 c2 : ClassId} : xs ad kk (lnz V Z.ln) L (Z.grow q1 q2 c1 c2) = (((xs ad kk V L Z).set 3 (ad 3, .inr (8, ((xfStock ad V L Z).set 10 (.ref q1)).set 11 (.ref q2)))).set 28 (q1, .inl (c1, 2 * Z.ln, .inl (va_cpy (V 31) (fun _ => 0) 0 0 Z.ln)))).set 29 (q2, .inl (c2, 2 * Z.ln, .inl (va_cpy (V 32) (fun _ => 0) 0 0 Z.ln))) := by
  unfold xs xfHouse xfReader xfChecker xfStock xfNotes xfMachine xfTape
  rw [lnz_o (V := V) (n := Z.ln) (c := 0) (by decide), lnz_o (V := V) (n := Z.ln) (c := 1) (by decide), lnz_o (V := V) (n := Z.ln) (c := 2) (by decide), lnz_o (V := V) (n := Z.ln) (c := 3) (by decide), lnz_o (V := V) (n := Z.ln) (c := 4) (by decide), lnz_o (V := V) (n := Z.ln) (c := 5) (by decide), lnz_o (V := V) (n := Z.ln) (c := 6) (by decide), lnz_o (V := V) (n := Z.ln) (c := 10) (by decide), lnz_o (V := V) (n := Z.ln) (c := 12) (by decide), lnz_o (V := V) (n := Z.ln) (c := 13) (by decide), lnz_o (V := V) (n := Z.ln) (c := 15) (by decide), lnz_o (V := V) (n := Z.ln) (c := 16) (by decide), lnz_o (V := V) (n := Z.ln) (c := 17) (by decide), lnz_o (V := V) (n := Z.ln) (c := 18) (by decide), lnz_o (V := V) (n := Z.ln) (c := 19) (by decide), lnz_o (V := V) (n := Z.ln) (c := 20) (by decide), lnz_o (V := V) (n := Z.ln) (c := 21) (by decide), lnz_o (V := V) (n := Z.ln) (c := 22) (by decide), lnz_o (V := V) (n := Z.ln) (c := 23) (by decide), lnz_o (V := V) (n := Z.ln) (c := 24) (by decide), lnz_o (V := V) (n := Z.ln) (c := 25) (by decide), lnz_o (V := V) (n := Z.ln) (c := 26) (by decide), lnz_o (V := V) (n := Z.ln) (c := 27) (by decide), lnz_o (V := V) (n := Z.ln) (c := 28) (by decide), lnz_o (V := V) (n := Z.ln) (c := 29) (by decide), lnz_o (V := V) (n := Z.ln) (c := 30) (by decide), lnz_o (V := V) (n := Z.ln) (c := 33) (by decide), lnz_o (V := V) (n := Z.ln) (c := 34) (by decide), lnz_o (V := V) (n := Z.ln) (c := 35) (by decide), lnz_o (V := V) (n := Z.ln) (c := 36) (by decide), lnz_o (V := V) (n := Z.ln) (c := 37) (by decide), lnz_o (V := V) (n := Z.ln) (c := 39) (by decide), lnz_o (V := V) (n := Z.ln) (c := 40) (by decide)]
  rfl
theorem xw_lnz {ad : Nat → Nat} {kk : Nat → ClassId} {V : Vf} {L : Lf} {Z : XZ} {q1 q2 : Nat} {c1 c2 : ClassId} : xw ad kk (lnz V Z.ln) L (Z.grow q1 q2 c1 c2) = (((xw ad kk V L Z).set 3 (ad 3, .inr (8, ((xfStock ad V L Z).set 10 (.ref q1)).set 11 (.ref q2)))).set 28 (q1, .inl (c1, 2 * Z.ln, .inl (va_cpy (V 31) (fun _ => 0) 0 0 Z.ln)))).set 29 (q2, .inl (c2, 2 * Z.ln, .inl (va_cpy (V 32) (fun _ => 0) 0 0 Z.ln))) := by
  unfold xw
  rw [List.set_append_left _ _ (show 3 < (xs ad kk V L Z).length from by show 3 < 38; omega), List.set_append_left _ _ (by rw [List.length_set]; show 28 < 38; omega), List.set_append_left _ _ (by rw [List.length_set, List.length_set]; show 29 < 38; omega), ← xs_lnz]
  have e : xb ad kk (lnz V Z.ln) L (Z.grow q1 q2 c1 c2) = xb ad kk V L Z := funext (fun j => xb_lnz)
  rw [e]
  rfl
theorem grow_get {α : Type} {ws : List α} {s1 s2 c1 c2 : α} (h : 29 < ws.length) (k : Nat) (x : α) (hx : (((ws.set 3 s2).set 28 c1).set 29 c2)[k]? = some x) : ((((ws ++ [c1]).set 3 s1) ++ [c2]).set 3 s2)[if k = 28 then ws.length else if k = 29 then ws.length + 1 else k]? = some x := by
  have l1 : ((ws ++ [c1]).set 3 s1).length = ws.length + 1 := by rw [List.length_set, List.length_append]; rfl
  have l2 : (((ws ++ [c1]).set 3 s1) ++ [c2]).length = ws.length + 2 := by rw [List.length_append, l1]; rfl
  have g1 : ((((ws ++ [c1]).set 3 s1) ++ [c2]).set 3 s2)[ws.length]? = some c1 := by
    rw [List.getElem?_set, if_neg (by omega), List.getElem?_append_left (by omega), List.getElem?_set, if_neg (by omega), List.getElem?_append_right (by omega), Nat.sub_self]
    rfl
  have g2 : ((((ws ++ [c1]).set 3 s1) ++ [c2]).set 3 s2)[ws.length + 1]? = some c2 := by
    rw [List.getElem?_set, if_neg (by omega), List.getElem?_append_right (by omega), l1, Nat.sub_self]
    rfl
  have g3 : ((((ws ++ [c1]).set 3 s1) ++ [c2]).set 3 s2)[3]? = some s2 := by
    rw [List.getElem?_set, if_pos rfl, if_pos (by omega)]
  rw [List.getElem?_set, List.getElem?_set, List.getElem?_set] at hx
  simp only [List.length_set] at hx
  by_cases k29 : 29 = k
  · rw [if_pos k29, if_pos h] at hx
    have e : (if k = 28 then ws.length else if k = 29 then ws.length + 1 else k) = ws.length + 1 := by rw [if_neg (by omega), if_pos k29.symm]
    rw [e, g2]
    exact hx
  · rw [if_neg k29] at hx
    by_cases k28 : 28 = k
    · rw [if_pos k28, if_pos (by omega)] at hx
      have e : (if k = 28 then ws.length else if k = 29 then ws.length + 1 else k) = ws.length := by rw [if_pos k28.symm]
      rw [e, g1]
      exact hx
    · rw [if_neg k28] at hx
      have e : (if k = 28 then ws.length else if k = 29 then ws.length + 1 else k) = k := by rw [if_neg (by omega), if_neg (by omega)]
      rw [e]
      by_cases k3 : 3 = k
      · rw [if_pos k3, if_pos (by omega)] at hx
        rw [← k3, g3]
        exact hx
      · rw [if_neg k3] at hx
        have hk : k < ws.length := (List.getElem?_eq_some_iff.mp hx).1
        rw [List.getElem?_set, if_neg k3, List.getElem?_append_left (by omega), List.getElem?_set, if_neg k3, List.getElem?_append_left hk]
        exact hx
theorem grow_P {D : va_G} {ws : va_W} {H : Heap} {s1 s2 c1 c2 : Nat × va_E} (h : 29 < ws.length) (hP : va_P D vwCl ((((ws ++ [c1]).set 3 s1) ++ [c2]).set 3 s2) H) : va_P D vwCl (((ws.set 3 s2).set 28 c1).set 29 c2) H := fun k q hq => hP _ q (grow_get h k q hq)
theorem grow_D {A : Nat → Prop} {ws : va_W} {s1 s2 c1 c2 : Nat × va_E} (h : 29 < ws.length) (hD : va_D A ((((ws ++ [c1]).set 3 s1) ++ [c2]).set 3 s2)) : va_D A (((ws.set 3 s2).set 28 c1).set 29 c2) := by
  have ln : (((ws.set 3 s2).set 28 c1).set 29 c2).length = ws.length := by rw [List.length_set, List.length_set, List.length_set]
  refine ⟨fun i j p q hi hj e => ?_, fun k p hk => hD.2 _ p (grow_get h k p hk)⟩
  have w := hD.1 _ _ p q (grow_get h i p hi) (grow_get h j q hj) e
  have li := (List.getElem?_eq_some_iff.mp hi).1
  have lj := (List.getElem?_eq_some_iff.mp hj).1
  rw [ln] at li lj
  by_cases a1 : i = 28
  · rw [if_pos a1] at w
    by_cases b1 : j = 28
    · omega
    · rw [if_neg b1] at w
      by_cases b2 : j = 29
      · rw [if_pos b2] at w; omega
      · rw [if_neg b2] at w; omega
  · rw [if_neg a1] at w
    by_cases a2 : i = 29
    · rw [if_pos a2] at w
      by_cases b1 : j = 28
      · rw [if_pos b1] at w; omega
      · rw [if_neg b1] at w
        by_cases b2 : j = 29
        · omega
        · rw [if_neg b2] at w; omega
    · rw [if_neg a2] at w
      by_cases b1 : j = 28
      · rw [if_pos b1] at w; omega
      · rw [if_neg b1] at w
        by_cases b2 : j = 29
        · rw [if_pos b2] at w; omega
        · rw [if_neg b2] at w; omega
theorem xt_lnz {kk : Nat → ClassId} {Z : XZ} {q1 q2 : Nat} {c1 c2 : ClassId} : xty kk (Z.grow q1 q2 c1 c2) = ((xty kk Z).set 21 (c1, .int)).set 22 (c2, .int) := by
  unfold xty
  rw [List.set_append_left _ _ (show 21 < (xts kk Z).length from by show 21 < 31; omega), List.set_append_left _ _ (by rw [List.length_set]; show 22 < 31; omega)]
  rfl
theorem grow_T {α : Type} {ts : List α} {c1 c2 : α} (h : 22 < ts.length) (k : Nat) (x : α) (hx : ((ts.set 21 c1).set 22 c2)[k]? = some x) : ∃ j : Nat, ((ts ++ [c1]) ++ [c2])[j]? = some x := by
  rw [List.getElem?_set, List.getElem?_set, List.length_set] at hx
  by_cases k22 : 22 = k
  · rw [if_pos k22, if_pos h] at hx
    refine ⟨ts.length + 1, ?_⟩
    rw [List.getElem?_append_right (by rw [List.length_append]; exact Nat.le_refl _), List.length_append]
    show [c2][ts.length + 1 - (ts.length + 1)]? = some x
    rw [Nat.sub_self]
    exact hx
  · rw [if_neg k22] at hx
    by_cases k21 : 21 = k
    · rw [if_pos k21, if_pos (by omega)] at hx
      refine ⟨ts.length, ?_⟩
      rw [List.getElem?_append_left (by rw [List.length_append]; exact Nat.lt_succ_self _), List.getElem?_append_right (Nat.le_refl _), Nat.sub_self]
      exact hx
    · rw [if_neg k21] at hx
      have hk : k < ts.length := (List.getElem?_eq_some_iff.mp hx).1
      refine ⟨k, ?_⟩
      rw [List.getElem?_append_left (by rw [List.length_append]; exact Nat.lt_of_lt_of_le hk (Nat.le_succ _)), List.getElem?_append_left hk]
      exact hx
theorem grow_K {D : va_G} {ts : List (ClassId × FieldType)} {s : State} {c1 c2 : ClassId × FieldType} (h : 22 < ts.length) (hK : va_K D vwCl ((ts ++ [c1]) ++ [c2]) s) : va_K D vwCl ((ts.set 21 c1).set 22 c2) s := ⟨hK.1, fun k q hq => by obtain ⟨j, hj⟩ := grow_T h k q hq; exact hK.2 j q hj⟩
theorem xt_len {kk : Nat → ClassId} {Z : XZ} : (xty kk Z).length = 329 := by
  unfold xty
  rw [List.length_append, List.length_map, List.length_range, show (xts kk Z).length = 31 from rfl]
theorem zc_grow {Z : XZ} {q1 q2 : Nat} {c1 c2 : ClassId} (h : LN Z.ln) (h2 : Z.ln < 262144) : zcc (Z.grow q1 q2 c1 c2) + 2 ≤ zcc Z ∧ zss (Z.grow q1 q2 c1 c2) + 4 * Z.ln = zss Z ∧ LN (2 * Z.ln) ∧ 512 ≤ Z.ln ∧ 2 * Z.ln ≤ 262144 := by
  have e1 : (Z.grow q1 q2 c1 c2).nf = Z.nf := rfl
  have e2 : (Z.grow q1 q2 c1 c2).ln = 2 * Z.ln := rfl
  unfold zcc zss
  rw [e1, e2]
  unfold LN at h ⊢
  omega
theorem ZL.grow {Z : XZ} {q1 q2 : Nat} {c1 c2 : ClassId} (h : LN Z.ln) (h2 : Z.ln < 262144) : ZL Z (Z.grow q1 q2 c1 c2) := ⟨by have := (zc_grow (q1 := q1) (q2 := q2) (c1 := c1) (c2 := c2) h h2).1; omega, by have := (zc_grow (q1 := q1) (q2 := q2) (c1 := c1) (c2 := c2) h h2).2.1; omega, Nat.le_refl _, by show Z.ln ≤ 2 * Z.ln; (first | exact om_38427244a37f | omega), fun _ _ => rfl⟩
theorem SL.grow {V : Vf} {Z : XZ} {q1 q2 : Nat} {c1 c2 : ClassId} (h : SL V Z) (h2 : 2 * Z.ln ≤ 262144) : SL (lnz V Z.ln) (Z.grow q1 q2 c1 c2) := by
  unfold SL
  rw [lnz_o (c := 3) (by decide), lnz_o (c := 30) (by decide)]
  have e2 : (Z.grow q1 q2 c1 c2).ln = 2 * Z.ln := rfl
  rw [e2]
  refine ⟨by have := h.1; omega, h2, h.2.2.1, fun i hi => ?_⟩
  rw [lnz_32, if_pos (by have := h.1; omega)]
  exact h.2.2.2 i hi
/-! a link more -/
def JN (V W : Vf) (Z Z' : XZ) (j : Nat) : Prop := BE V W ∧ (∀ c k : Nat, 67 ≤ c → c ≤ 85 → W c k = V c k) ∧ (W 3 13 = V 3 13 ∧ W 5 5 = V 5 5 ∧ W 5 8 = V 5 8 ∧ W 5 6 = V 5 6 ∧ W 5 9 = V 5 9 ∧ W 5 10 = V 5 10) ∧ (∀ k, W 25 k = V 25 k) ∧ (∀ k, W 26 k = V 26 k) ∧ (∀ k, W 40 k = V 40 k) ∧ (∀ k, k ≠ j → W 30 k = V 30 k) ∧ (W 30 j).toInt ≠ -1 ∧ (W 3 15).toInt = (V 3 15).toInt + 1 ∧ SL W Z' ∧ Z'.nf = Z.nf ∧ LN Z'.ln
theorem MI.jn {V W : Vf} {Z Z' : XZ} {b n r r' j : Nat} {g : Nat → Nat} {w v u : Prop} (h : MI V Z b g n r w v u) (J : JN V W Z Z' j) (hr : r' + 1 ≤ r) : MI W Z' b g n r' w v u := by
  obtain ⟨hB, hR, ⟨e13, e5, e8, e6, e9, e10⟩, e25, e26, e40, e30, n30, e15, sl, enf, hln⟩ := J
  have e43 := hB 43 (5 * b + 2) (by decide) (by decide)
  have o0 := h.o0
  refine ⟨sl, by rw [enf]; exact h.nf, by rw [enf]; exact h.dn, by rw [e43]; exact h.sz, ?_, ?_, ?_, fun i hi => ?_, by rw [e13, e15, e8]; exact ⟨o0.1, by omega, o0.2.2⟩, ?_, h.tx.be hB, h.cd.be hB, by rw [e5]; exact h.mb, hln, ?_⟩
  · intro o ho
    rw [e13] at ho
    rw [e26, e43]
    exact h.oc o ho
  · intro i hi
    rw [e8] at hi
    rw [e40, e13]
    exact h.md i hi
  · intro i k a1 a2
    rw [hR 67 i (by decide) (by decide), hR 67 k (by decide) (by decide), hR 80 i (by decide) (by decide), hR 80 k (by decide) (by decide)]
    exact h.mk2 i k a1 a2
  · have ev : vI W n v u i = vI V n v u i := by unfold vI; rw [hR 67 (n - 1) (by decide) (by decide)]
    rw [ev]
    exact (h.fk i hi).cg hB (fun c a1 a2 => hR c i a1 a2) e13 e8
  · have p := h.pot
    rw [e15, e13, e8, hB 44 0 (by decide) (by decide)]
    omega
  · intro k hk
    rw [e25, e13]
    refine ⟨(h.pt k hk).1, fun o h1 => ?_⟩
    rw [e26]
    exact (h.pt k hk).2 o h1
/-- a link of the one that is made -/
theorem MO.jn {V W : Vf} {Z Z' : XZ} {b d j : Nat} {w v u : Prop} (h : MO V Z b d w v u) (hw : w) (k1 : (V 67 d).toInt = 1) (ph : (V 68 d).toInt ≠ 1) (J : JN V W Z Z' j) : MO W Z' b d False False False := by
  obtain ⟨g, r, x, h0, hx, hF, hm⟩ := h
  have f6 := ((hF.2.2.2.2.2.1 k1).2 ph).2 hw
  have f5 := hF.2.2.2.2.1 k1
  obtain ⟨y, rfl⟩ : ∃ y, x = y + 1 := ⟨x - 1, by omega⟩
  have e67 := J.2.1 67 d (by decide) (by decide)
  refine ⟨g, r - 1, y, (h0.jn (r' := r - 1) J (by omega)).w id (fun _ => Or.inl (by omega)) id (Nat.le_refl _), by omega, ?_, fun k => absurd k (by rw [e67]; omega)⟩
  have hG : FK V b y d False False := ⟨hF.1, hF.2.1, hF.2.2.1, hF.2.2.2.1, hF.2.2.2.2.1, fun a1 => ⟨by omega, fun a2 => ⟨by omega, fun z => z.elim⟩⟩, hF.2.2.2.2.2.2.1, hF.2.2.2.2.2.2.2.1, hF.2.2.2.2.2.2.2.2.1, fun _ _ z => z.elim⟩
  exact hG.cg J.1 (fun c a1 a2 => J.2.1 c d a1 a2) J.2.2.1.1 J.2.2.1.2.2.1
/-- a late link -/
theorem MO.jl {V W : Vf} {Z Z' : XZ} {b d j : Nat} {w v u : Prop} (h : MO V Z b d w v u) (hv : v) (k4 : (V 67 d).toInt = 4) (ph : (V 68 d).toInt = 7) (J : JN V W Z Z' j) : MO W Z' b d True False True := by
  obtain ⟨g, r, x, h0, hx, hF, hm⟩ := h
  have f6 := hF.2.2.2.2.2.2.2.2.2 k4 ph hv
  have e67 := J.2.1 67 d (by decide) (by decide)
  refine ⟨g, r - 1, 0, (h0.jn (r' := r - 1) J (by omega)).w id (fun _ => Or.inl (by omega)) id (Nat.le_refl _), Nat.zero_le _, ?_, fun k => absurd k (by rw [e67]; omega)⟩
  have hG : FK V b 0 d True False := ⟨hF.1, hF.2.1, hF.2.2.1, hF.2.2.2.1, hF.2.2.2.2.1, fun a1 => absurd a1 (by omega), hF.2.2.2.2.2.2.1, hF.2.2.2.2.2.2.2.1, hF.2.2.2.2.2.2.2.2.1, fun _ _ z => z.elim⟩
  exact hG.cg J.1 (fun c a1 a2 => J.2.1 c d a1 a2) J.2.2.1.1 J.2.2.1.2.2.1
/-- what join writes, by its two ways -/
theorem JN.mk {V V1 V2 V3 W : Vf} {Z : XZ} {l j c k : Nat} {o x y : Int32} (h : SL V Z) (hln : LN Z.ln) (hl : (l : Int) = (V 3 15).toInt) (hz : (l : Int) < (Z.ln : Int)) (e1 : V1 = up2 V 31 l o) (e2 : V2 = up2 V1 32 l (-1)) (e3 : V3 = up2 V2 c k x) (hx : x.toInt = (V 3 15).toInt) (e4 : W = up2 V3 3 15 y) (hy : y.toInt = (V 3 15).toInt + 1) (hck : (c = 30 ∧ k = j) ∨ (c = 32 ∧ (k : Int) < (V 3 15).toInt ∧ (V 30 j).toInt ≠ -1)) : JN V W Z Z j := by
  have o3 : ∀ c' k', ¬ (c' = 3 ∧ k' = 15) → ¬ (c' = c ∧ k' = k) → ¬ (c' = 32 ∧ k' = l) → c' ≠ 31 → W c' k' = V c' k' := fun c' k' a1 a2 a3 a4 => by
    rw [e4, up2_pl a1, e3, up2_pl a2, e2, up2_pl a3, e1, up2_pl (fun a => a4 a.1)]
  have e15 : (W 3 15).toInt = (V 3 15).toInt + 1 := by rw [up2_s e4]; exact hy
  have n32 : (W 32 l).toInt = -1 ∨ (W 32 l) = x := by
    rw [e4, up2_pl (by omega), e3]
    by_cases q : 32 = c ∧ l = k
    · rw [q.1, q.2]; exact Or.inr up2_ss
    · left
      rw [up2_pl q, up2_s e2]
      decide
  have e13 : W 3 13 = V 3 13 := o3 _ _ (by omega) (by omega) (by omega) (by omega)
  refine ⟨fun c' k' a1 a2 => o3 c' k' (by omega) (by omega) (by omega) (by omega), fun c' k' a1 a2 => o3 c' k' (by omega) (by omega) (by omega) (by omega), ⟨e13, o3 _ _ (by omega) (by omega) (by omega) (by omega), o3 _ _ (by omega) (by omega) (by omega) (by omega), o3 _ _ (by omega) (by omega) (by omega) (by omega), o3 _ _ (by omega) (by omega) (by omega) (by omega), o3 _ _ (by omega) (by omega) (by omega) (by omega)⟩, fun k' => o3 _ _ (by omega) (by omega) (by omega) (by omega), fun k' => o3 _ _ (by omega) (by omega) (by omega) (by omega), fun k' => o3 _ _ (by omega) (by omega) (by omega) (by omega), fun k' hk => o3 _ _ (by omega) (by omega) (by omega) (by omega), ?_, e15, ?_, rfl, hln⟩
  · rcases hck with ⟨q1, q2⟩ | ⟨q1, q2, q3⟩
    · rw [e4, up2_pl (by omega), e3, q1, q2, up2_ss]
      omega
    · rw [o3 30 j (by omega) (by omega) (by omega) (by omega)]
      exact q3
  · unfold SL
    rw [e15, e13]
    refine ⟨by omega, h.2.1, fun o' k' a1 a2 => ?_, fun i hi => ?_⟩
    · have z := h.2.2.1 o' k' a1 a2
      by_cases q : 30 = c ∧ 8 * o' + k' = k
      · rw [e4, up2_pl (by omega), e3, q.1, q.2, up2_ss]
        omega
      · rw [o3 30 _ (by omega) q (by omega) (by omega)]
        omega
    · by_cases q : i = l
      · rw [q]
        rcases n32 with n | n
        · omega
        · rw [n]; omega
      · by_cases q2 : 32 = c ∧ i = k
        · rw [e4, up2_pl (by omega), e3, q2.1, q2.2, up2_ss]
          omega
        · rw [o3 32 i (by omega) q2 (by omega) (by omega)]
          have := h.2.2.2 i (by omega)
          omega
theorem JN.gr {V W : Vf} {Z : XZ} {q1 q2 j n : Nat} {c1 c2 : ClassId} (J : JN (lnz V n) W (Z.grow q1 q2 c1 c2) (Z.grow q1 q2 c1 c2) j) : JN V W Z (Z.grow q1 q2 c1 c2) j := by
  have o : ∀ c, c ≠ 31 ∧ c ≠ 32 → lnz V n c = V c := fun c h => lnz_o h
  obtain ⟨a1, a2, a3, a25, a4, a5, a6, a7, a8, a9, a10, a11⟩ := J
  rw [o 3 (by decide), o 5 (by decide)] at a3
  rw [o 25 (by decide)] at a25
  rw [o 26 (by decide)] at a4
  rw [o 40 (by decide)] at a5
  rw [o 30 (by decide)] at a6
  rw [o 3 (by decide)] at a8
  refine ⟨fun c k h1 h2 => ?_, fun c k h1 h2 => ?_, a3, a25, a4, a5, a6, a7, a8, a9, rfl, a11⟩
  · rw [a1 c k h1 h2, o c (by omega)]
  · rw [a2 c k h1 h2, o c (by omega)]

theorem w1366 : Cond.methodLink RJ7 304 yJ9_min_7cf53 ∈ GW := gw_k tk9_6 11 (by decide +kernel) rfl
theorem w1367 : Cond.methodLink RJ7 150 arraycopyName ∈ GW := gw_k tk9_6 12 (by decide +kernel) rfl
theorem w1369 : Cond.native arraycopyName ∈ GW := gw_k tk9_6 14 (by decide +kernel) rfl
theorem w1368 : Cond.static arraycopyName ∈ GW := gw_k tk9_6 13 (by decide +kernel) rfl
theorem w181 : Cond.initialized RJ10 ∈ GW := gw_k tk9_1 26 (by decide +kernel) rfl
theorem dk9_dJ7_copyOf_59c91_0_0 : dOk cJ7_copyOf_59c91 [(0, .iload_n 1, 1), (1, .aload_n 0, 1), (2, .arraylength, 1), (3, .if_icmp .ne 11, 3), (14, .iload_n 1, 1), (15, .newarray .int, 2), (17, .astore_n 2, 1), (18, .aload_n 0, 1), (19, .iconst 0, 1), (20, .aload_n 2, 1), (21, .iconst 0, 1), (22, .aload_n 0, 1), (23, .arraylength, 1), (24, .iload_n 1, 1), (25, .invokestatic 304, 3), (28, .invokestatic 150, 3), (31, .aload_n 2, 1), (32, .areturn, 1)] = true := by decide +kernel
theorem dJ7_copyOf_59c91_0 : decode cJ7_copyOf_59c91 0 = .ok (.iload_n 1, 1) := dr9 dk9_dJ7_copyOf_59c91_0_0 0 (0, .iload_n 1, 1) rfl
theorem dJ7_copyOf_59c91_1 : decode cJ7_copyOf_59c91 1 = .ok (.aload_n 0, 1) := dr9 dk9_dJ7_copyOf_59c91_0_0 1 (1, .aload_n 0, 1) rfl
theorem dJ7_copyOf_59c91_2 : decode cJ7_copyOf_59c91 2 = .ok (.arraylength, 1) := dr9 dk9_dJ7_copyOf_59c91_0_0 2 (2, .arraylength, 1) rfl
theorem dJ7_copyOf_59c91_3 : decode cJ7_copyOf_59c91 3 = .ok (.if_icmp .ne 11, 3) := dr9 dk9_dJ7_copyOf_59c91_0_0 3 (3, .if_icmp .ne 11, 3) rfl
theorem dJ7_copyOf_59c91_14 : decode cJ7_copyOf_59c91 14 = .ok (.iload_n 1, 1) := dr9 dk9_dJ7_copyOf_59c91_0_0 4 (14, .iload_n 1, 1) rfl
theorem dJ7_copyOf_59c91_15 : decode cJ7_copyOf_59c91 15 = .ok (.newarray .int, 2) := dr9 dk9_dJ7_copyOf_59c91_0_0 5 (15, .newarray .int, 2) rfl
theorem dJ7_copyOf_59c91_17 : decode cJ7_copyOf_59c91 17 = .ok (.astore_n 2, 1) := dr9 dk9_dJ7_copyOf_59c91_0_0 6 (17, .astore_n 2, 1) rfl
theorem dJ7_copyOf_59c91_18 : decode cJ7_copyOf_59c91 18 = .ok (.aload_n 0, 1) := dr9 dk9_dJ7_copyOf_59c91_0_0 7 (18, .aload_n 0, 1) rfl
theorem dJ7_copyOf_59c91_19 : decode cJ7_copyOf_59c91 19 = .ok (.iconst 0, 1) := dr9 dk9_dJ7_copyOf_59c91_0_0 8 (19, .iconst 0, 1) rfl
theorem dJ7_copyOf_59c91_20 : decode cJ7_copyOf_59c91 20 = .ok (.aload_n 2, 1) := dr9 dk9_dJ7_copyOf_59c91_0_0 9 (20, .aload_n 2, 1) rfl
theorem dJ7_copyOf_59c91_21 : decode cJ7_copyOf_59c91 21 = .ok (.iconst 0, 1) := dr9 dk9_dJ7_copyOf_59c91_0_0 10 (21, .iconst 0, 1) rfl
theorem dJ7_copyOf_59c91_22 : decode cJ7_copyOf_59c91 22 = .ok (.aload_n 0, 1) := dr9 dk9_dJ7_copyOf_59c91_0_0 11 (22, .aload_n 0, 1) rfl
theorem dJ7_copyOf_59c91_23 : decode cJ7_copyOf_59c91 23 = .ok (.arraylength, 1) := dr9 dk9_dJ7_copyOf_59c91_0_0 12 (23, .arraylength, 1) rfl
theorem dJ7_copyOf_59c91_24 : decode cJ7_copyOf_59c91 24 = .ok (.iload_n 1, 1) := dr9 dk9_dJ7_copyOf_59c91_0_0 13 (24, .iload_n 1, 1) rfl
theorem dJ7_copyOf_59c91_25 : decode cJ7_copyOf_59c91 25 = .ok (.invokestatic 304, 3) := dr9 dk9_dJ7_copyOf_59c91_0_0 14 (25, .invokestatic 304, 3) rfl
theorem dJ7_copyOf_59c91_28 : decode cJ7_copyOf_59c91 28 = .ok (.invokestatic 150, 3) := dr9 dk9_dJ7_copyOf_59c91_0_0 15 (28, .invokestatic 150, 3) rfl
theorem dJ7_copyOf_59c91_31 : decode cJ7_copyOf_59c91 31 = .ok (.aload_n 2, 1) := dr9 dk9_dJ7_copyOf_59c91_0_0 16 (31, .aload_n 2, 1) rfl
theorem dJ7_copyOf_59c91_32 : decode cJ7_copyOf_59c91 32 = .ok (.areturn, 1) := dr9 dk9_dJ7_copyOf_59c91_0_0 17 (32, .areturn, 1) rfl
theorem ap_l {α : Type} {ws : List α} {e x : α} {k : Nat} (h : ws[k]? = some x) : (ws ++ [e])[k]? = some x := by
  rw [List.getElem?_append_left (List.getElem?_eq_some_iff.mp h).1]
  exact h
theorem ap_r {α : Type} {ws : List α} {e : α} : (ws ++ [e])[ws.length]? = some e := by
  rw [List.getElem?_append_right (Nat.le_refl _), Nat.sub_self]
  rfl
theorem ap_s {α : Type} {ws : List α} {e f : α} : (ws ++ [e]).set ws.length f = ws ++ [f] := by
  rw [List.set_append_right _ _ (Nat.le_refl _), Nat.sub_self]
  rfl
abbrev r_copyOf (k : Nat) : Room := { frames := 1, cells := 1, slots := k, locals := 40 }
abbrev q_copyOf (D : va_G) (ws : va_W) (tys : List (ClassId × FieldType)) (n k : Nat) (f : Nat → Int32) (A : Nat → Prop) : Array Value → State → Outcome → State → Prop := qZr D (fun (u : Nat × ClassId) => True) (fun u => u.1) (fun u => ws ++ [(u.1, .inl (u.2, k, .inl (va_cpy f (fun _ => 0) 0 0 n)))]) (fun u => tys ++ [(u.2, .int)]) (fun _ => 1) (fun _ => k) A
set_option maxHeartbeats 4000000 in
set_option maxRecDepth 100000 in
theorem c_copyOf (l : Launch) (D : va_G) (ks : KS) (sz : Nat) (ws : va_W) (tys : List (ClassId × FieldType)) (q0 t0 a : Nat) (kA : ClassId) (n k : Nat) (f : Nat → Int32) (z : Int32) (ha : ws[q0]? = some (a, .inl (kA, n, .inl f))) (ht : tys[t0]? = some (kA, .int)) (hz : z.toInt = (k : Int)) (hn : n < k) (hk : k ≤ 300000) : Met l yJ7_copyOf_59c91 (Cond.code yJ7_copyOf_59c91 cJ7_copyOf_59c91 3 (some (.array .int)) :: GW) (r_copyOf k) (va_Pc [.ref a, .int z] (gp D ks ws tys sz)) (q_copyOf D ws tys n k f (va_A ws sz)) 1 k (va_A ws sz) := by
  refine g_met (q_copyOf D ws tys n k f) (by decide) (Nat.le_of_ble_eq_true rfl) ?_
  intro p e s m below meth c A ls H locs hx hb hr hml hown hg hlocks hin hnw hgk hP hK hD hS hA hl
  have hown : s.vm.findClass RJ7 = some m.cls := hown
  have hl : lv_has ls 3 [(0, .ref a), (1, .int z)] := hl
  have hnn : (nI n).toInt = (n : Int) := nI_toInt (by omega)
  have ncl : Int32.toNatClampNeg (nI n) = n := nI_clamp (by omega)
  have zcl := i_clamp (x := z) rfl (by (first | exact om_f0b80f1cbc29 hz hn | omega))
  have e0 : Int32.toInt 0 = 0 := by decide
  have hz0 : ¬ z < 0 := fun q => by have := Int32.lt_iff_toInt_lt.mp q; omega
  have hn0 : ¬ nI n < 0 := fun q => by have := Int32.lt_iff_toInt_lt.mp q; omega
  have hmn : ¬ z < nI n := fun q => by have := Int32.lt_iff_toInt_lt.mp q; omega
  refine W.know (fun ka kb => ?_)
  refine lv_iload_n hx hb dJ7_copyOf_59c91_0 rfl (lv_at hl 1 rfl) ?_
  refine lv_aload_n hx hb dJ7_copyOf_59c91_1 rfl (lv_at hl 0 rfl) ?_
  refine va_alen (D := D) (v := nI n) hx hb hK hP q0 t0 ha ht rfl dJ7_copyOf_59c91_2 ?_
  refine lv_icmp_ne (tgt := 14) hx hb dJ7_copyOf_59c91_3 (by decide) (fun c2 => ?_) (fun c2 => ?_)
  · refine lv_iload_n hx hb dJ7_copyOf_59c91_14 rfl (lv_at hl 1 rfl) ?_
    refine va_newa (D := D) (atype := .int) (ty := .int) (n := z) (N' := k) (a0 := (k, .inl (fun _ => 0))) hx hb (hg _ w297) rfl hK hP hD hS hA (fun _ => rfl) hz0 (by omega) (by show k * 4 ≤ 536870912; (first | exact om_5a470900123d hk | omega)) (by show 0 + 1 ≤ 1; omega) (by show 0 + k ≤ k; (first | exact om_d1ed6895266e | omega)) dJ7_copyOf_59c91_15 (fun q kq H hK hP hD hS => ?_)
    refine lv_astore_n (lv' := [(2, .ref q), (0, .ref a), (1, .int z)]) hx hb dJ7_copyOf_59c91_17 rfl hl (by decide) rfl (fun ls hl => ?_)
    refine lv_aload_n hx hb dJ7_copyOf_59c91_18 rfl (lv_at hl 1 rfl) ?_
    refine lv_iconst (v := 0) hx hb dJ7_copyOf_59c91_19 (by decide) ?_
    refine lv_aload_n hx hb dJ7_copyOf_59c91_20 rfl (lv_at hl 0 rfl) ?_
    refine lv_iconst (v := 0) hx hb dJ7_copyOf_59c91_21 (by decide) ?_
    refine lv_aload_n hx hb dJ7_copyOf_59c91_22 rfl (lv_at hl 1 rfl) ?_
    refine va_alen (D := D) (v := nI n) hx hb hK hP q0 t0 (ap_l ha) (ap_l ht) rfl dJ7_copyOf_59c91_23 ?_
    refine lv_iload_n hx hb dJ7_copyOf_59c91_24 rfl (lv_at hl 2 rfl) ?_
    refine va_mmin (x := nI n) (y := z) hx hb (hml.trans hl.1.symm) hown (hg _ w1366) (hg _ w811) (hg _ w173) (hg _ w812) (Nat.le_of_ble_eq_true rfl) (Nat.le_of_ble_eq_true rfl) (by show 0 + 1 ≤ 1; omega) (by show 0 + k ≤ k; (first | exact om_d1ed6895266e | omega)) dJ7_copyOf_59c91_25 ?_
    refine g_top (v := nI n) (if_neg hmn) ?_
    refine va_copyi (D := D) (ty := .int) hx hb (hml.trans hl.1.symm) hown (hg _ w1367) (hg _ w1369) (hg _ w1368) (hg _ w181) hK hP hD hS q0 ws.length t0 tys.length (ap_l ha) ap_r (ap_l ht) ap_r rfl (by decide) (by decide) hn0 (by show 0 + Int32.toNatClampNeg (nI n) ≤ n; (first | exact om_b0f4824b8fa3 ncl | omega)) (by show 0 + Int32.toNatClampNeg (nI n) ≤ k; (first | exact om_561babfe1225 hn ncl | omega)) (fun i hi => rfl) (Nat.le_of_ble_eq_true rfl) (Nat.le_of_ble_eq_true rfl) dJ7_copyOf_59c91_28 (fun H locs hP hD hS => ?_)
    rw [ap_s, ncl] at hP hD
    refine lv_aload_n hx hb dJ7_copyOf_59c91_31 rfl (lv_at hl 0 rfl) ?_
    refine W.know (fun kr1 kr2 => ?_)
    refine W.widen (k := 1) (n := k) (by omega) (by omega) ?_
    exact W.aret (v := .ref q) hx hb hr (Or.inr ⟨_, rfl⟩) (Or.inr ⟨_, rfl⟩) (fun t ht hW => ⟨⟨(q, kq), rfl, trivial, ⟨by rw [ht]; exact hP, va_K.moved hW.alike hK, hD⟩, by rw [ht]; exact (show H.size ≤ s.heap.size + 1 from by omega), by rw [ht]; exact (show tot H ≤ tot s.heap + k from by omega)⟩, hS.F ht⟩) hS.2.2 dJ7_copyOf_59c91_32
  · exfalso
    have c3 : z = nI n := c2
    rw [c3] at hz
    omega

