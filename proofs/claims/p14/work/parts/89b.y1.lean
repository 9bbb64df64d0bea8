/-! tokens: their places, by what lies there -/
def isLt (x : Int32) : Prop := 97 ≤ x.toInt ∧ x.toInt ≤ 122
def isDg (x : Int32) : Prop := 48 ≤ x.toInt ∧ x.toInt ≤ 57
def isLD (x : Int32) : Prop := isLt x ∨ isDg x
def isBl (x : Int32) : Prop := x.toInt = 32 ∨ x.toInt = 10
def RUN (P : Int32 → Prop) (f : Nat → Int32) (n s e : Nat) : Prop := s < e ∧ e ≤ n ∧ (∀ k, s ≤ k → k < e → P (f k)) ∧ (e = n ∨ ¬ P (f e))
theorem RUN.uq {P : Int32 → Prop} {f : Nat → Int32} {n s e d : Nat} (h : RUN P f n s e) (k : RUN P f n s d) : e = d := by
  rcases Nat.lt_trichotomy e d with c | c | c
  · rcases h.2.2.2 with q | q
    · have := k.2.1
      omega
    · exact absurd (k.2.2.1 e (Nat.le_of_lt h.1) c) q
  · exact c
  · rcases k.2.2.2 with q | q
    · have := h.2.1
      omega
    · exact absurd (h.2.2.1 d (Nat.le_of_lt k.1) c) q
theorem RUN.ex {P : Int32 → Prop} {f g : Nat → Int32} {n s e : Nat} (h : RUN P f n s e) (q : eqB n f g) : RUN P g n s e :=
  ⟨h.1, h.2.1, fun k a b => by rw [← q k (by have := h.2.1; omega)]; exact h.2.2.1 k a b, by
    by_cases c : e = n
    · exact Or.inl c
    · have := h.2.1
      rw [← q e (by omega)]
      exact h.2.2.2⟩
def cd (x : Int32) : Int64 := (if 48 ≤ x.toInt ∧ x.toInt ≤ 57 then x - 48 + 27 else x - 97 + 1).toInt64
def wv (f : Nat → Int32) (s : Nat) : Nat → Int64
  | 0 => 0
  | l + 1 => wv f s l * 37 + cd (f (s + l))
def nv (f : Nat → Int32) (s : Nat) : Nat → Int64
  | 0 => 0
  | l + 1 => nv f s l * 10 + (f (s + l)).toInt64 - 48
theorem wv_s (f : Nat → Int32) (s l : Nat) : wv f s (l + 1) = wv f s l * 37 + cd (f (s + l)) := rfl
theorem nv_s (f : Nat → Int32) (s l : Nat) : nv f s (l + 1) = nv f s l * 10 + (f (s + l)).toInt64 - 48 := rfl
def KW (L : Lf) (w : Int64) (x : Int) : Prop := (x = 3 ∧ ∀ k : Nat, k < 28 → L 11 k ≠ w) ∨ ∃ k : Nat, k < 28 ∧ x = 128 + (k : Int) ∧ L 11 k = w


abbrev r_x_isDigit2 : Room := { frames := 0, cells := 0, slots := 0, locals := 0 }
abbrev q_x_isDigit2 (D : va_G) (p0 : Int32) (A : Nat → Prop) : Array Value → State → Outcome → State → Prop := va_Qi (fun (r : Int32) (_ : Unit) => (0 ≤ r.toInt ∧ r.toInt ≤ 1) ∧ (Imp (r.toInt = 1) (48 ≤ p0.toInt ∧ p0.toInt ≤ 57)) ∧ (Imp (r.toInt = 0) (p0.toInt < 48 ∨ 57 < p0.toInt))) (fun _ t => gq D A [] [] t) A
set_option maxHeartbeats 4000000 in
set_option maxRecDepth 100000 in
theorem x_isDigit2 (l : Launch) (D : va_G) (ks : KS) (sz : Nat) (p0 : Int32)  : Met l yX9_isDigit (Cond.code yX9_isDigit cX9_isDigit 1 (some .boolean) :: GW) r_x_isDigit2 (va_Pc [.int p0] (gp D ks ([]) ([]) sz)) (q_x_isDigit2 D p0 (va_A ([]) sz)) 0 0 (va_A ([]) sz) := by
  refine g_met (q_x_isDigit2 D p0) (by decide) (Nat.le_of_ble_eq_true rfl) ?_
  intro p e s m below meth c A ls H locs hx hb hr hml hown hg hlocks hin hnw hgk hP hK hD hS hA hl
  have hown : s.vm.findClass RX9 = some m.cls := hown
  have hl : lv_has ls 1 [(0, .int p0)] := hl
  refine lv_iload_n hx hb dX9_isDigit_0 rfl (lv_at hl 0 rfl) ?_
  refine lv_bipush (v := 48) hx hb dX9_isDigit_1 (by decide) ?_
  refine lv_icmp_lt (tgt := 16) hx hb dX9_isDigit_3 (by decide) (fun c1 => ?_) (fun c1 => ?_)
  · skip
    have f2 : p0.toInt < 48 := b_lt rfl (by decide) c1
    refine lv_iconst (v := 0) hx hb dX9_isDigit_16 (by decide) ?_
    exact W.zret (v := 0) hx hb hr rfl (fun t ht hW => ⟨⟨0, (), rfl, ⟨(by decide), (Imp.mk (fun hp => absurd hp (by decide))), (Imp.mk (fun _ => (show p0.toInt < 48 ∨ 57 < p0.toInt from by omega)))⟩, by rw [ht]; exact hP, va_K.moved hW.alike hK, hD⟩, hS.F ht⟩) hS.2.2 dX9_isDigit_17
  · skip
    have f3 : 48 ≤ p0.toInt := b_nlt rfl (by decide) c1
    refine lv_iload_n hx hb dX9_isDigit_6 rfl (lv_at hl 0 rfl) ?_
    refine lv_bipush (v := 57) hx hb dX9_isDigit_7 (by decide) ?_
    refine lv_icmp_gt (tgt := 16) hx hb dX9_isDigit_9 (by decide) (fun c4 => ?_) (fun c4 => ?_)
    · skip
      have f5 : 57 < p0.toInt := b_lt (by decide) rfl c4
      refine lv_iconst (v := 0) hx hb dX9_isDigit_16 (by decide) ?_
      exact W.zret (v := 0) hx hb hr rfl (fun t ht hW => ⟨⟨0, (), rfl, ⟨(by decide), (Imp.mk (fun hp => absurd hp (by decide))), (Imp.mk (fun _ => (show p0.toInt < 48 ∨ 57 < p0.toInt from by omega)))⟩, by rw [ht]; exact hP, va_K.moved hW.alike hK, hD⟩, hS.F ht⟩) hS.2.2 dX9_isDigit_17
    · skip
      have f6 : p0.toInt ≤ 57 := b_nlt (by decide) rfl c4
      refine lv_iconst (v := 1) hx hb dX9_isDigit_12 (by decide) ?_
      refine lv_goto (tgt := 17) hx hb dX9_isDigit_13 (by decide) ?_
      exact W.zret (v := 1) hx hb hr rfl (fun t ht hW => ⟨⟨1, (), rfl, ⟨(by decide), (Imp.mk (fun _ => (show 48 ≤ p0.toInt ∧ p0.toInt ≤ 57 from by (first | exact om_f3f8e6332068 f3 f6 | omega)))), (Imp.mk (fun hp => absurd hp (by decide)))⟩, by rw [ht]; exact hP, va_K.moved hW.alike hK, hD⟩, hS.F ht⟩) hS.2.2 dX9_isDigit_17
abbrev r_x_isLetter2 : Room := { frames := 0, cells := 0, slots := 0, locals := 0 }
abbrev q_x_isLetter2 (D : va_G) (p0 : Int32) (A : Nat → Prop) : Array Value → State → Outcome → State → Prop := va_Qi (fun (r : Int32) (_ : Unit) => (0 ≤ r.toInt ∧ r.toInt ≤ 1) ∧ (Imp (r.toInt = 1) (97 ≤ p0.toInt ∧ p0.toInt ≤ 122)) ∧ (Imp (r.toInt = 0) (p0.toInt < 97 ∨ 122 < p0.toInt))) (fun _ t => gq D A [] [] t) A
set_option maxHeartbeats 4000000 in
set_option maxRecDepth 100000 in
theorem x_isLetter2 (l : Launch) (D : va_G) (ks : KS) (sz : Nat) (p0 : Int32)  : Met l yX9_isLetter (Cond.code yX9_isLetter cX9_isLetter 1 (some .boolean) :: GW) r_x_isLetter2 (va_Pc [.int p0] (gp D ks ([]) ([]) sz)) (q_x_isLetter2 D p0 (va_A ([]) sz)) 0 0 (va_A ([]) sz) := by
  refine g_met (q_x_isLetter2 D p0) (by decide) (Nat.le_of_ble_eq_true rfl) ?_
  intro p e s m below meth c A ls H locs hx hb hr hml hown hg hlocks hin hnw hgk hP hK hD hS hA hl
  have hown : s.vm.findClass RX9 = some m.cls := hown
  have hl : lv_has ls 1 [(0, .int p0)] := hl
  refine lv_iload_n hx hb dX9_isLetter_0 rfl (lv_at hl 0 rfl) ?_
  refine lv_bipush (v := 97) hx hb dX9_isLetter_1 (by decide) ?_
  refine lv_icmp_lt (tgt := 16) hx hb dX9_isLetter_3 (by decide) (fun c1 => ?_) (fun c1 => ?_)
  · skip
    have f2 : p0.toInt < 97 := b_lt rfl (by decide) c1
    refine lv_iconst (v := 0) hx hb dX9_isLetter_16 (by decide) ?_
    exact W.zret (v := 0) hx hb hr rfl (fun t ht hW => ⟨⟨0, (), rfl, ⟨(by decide), (Imp.mk (fun hp => absurd hp (by decide))), (Imp.mk (fun _ => (show p0.toInt < 97 ∨ 122 < p0.toInt from by omega)))⟩, by rw [ht]; exact hP, va_K.moved hW.alike hK, hD⟩, hS.F ht⟩) hS.2.2 dX9_isLetter_17
  · skip
    have f3 : 97 ≤ p0.toInt := b_nlt rfl (by decide) c1
    refine lv_iload_n hx hb dX9_isLetter_6 rfl (lv_at hl 0 rfl) ?_
    refine lv_bipush (v := 122) hx hb dX9_isLetter_7 (by decide) ?_
    refine lv_icmp_gt (tgt := 16) hx hb dX9_isLetter_9 (by decide) (fun c4 => ?_) (fun c4 => ?_)
    · skip
      have f5 : 122 < p0.toInt := b_lt (by decide) rfl c4
      refine lv_iconst (v := 0) hx hb dX9_isLetter_16 (by decide) ?_
      exact W.zret (v := 0) hx hb hr rfl (fun t ht hW => ⟨⟨0, (), rfl, ⟨(by decide), (Imp.mk (fun hp => absurd hp (by decide))), (Imp.mk (fun _ => (show p0.toInt < 97 ∨ 122 < p0.toInt from by omega)))⟩, by rw [ht]; exact hP, va_K.moved hW.alike hK, hD⟩, hS.F ht⟩) hS.2.2 dX9_isLetter_17
    · skip
      have f6 : p0.toInt ≤ 122 := b_nlt (by decide) rfl c4
      refine lv_iconst (v := 1) hx hb dX9_isLetter_12 (by decide) ?_
      refine lv_goto (tgt := 17) hx hb dX9_isLetter_13 (by decide) ?_
      exact W.zret (v := 1) hx hb hr rfl (fun t ht hW => ⟨⟨1, (), rfl, ⟨(by decide), (Imp.mk (fun _ => (show 97 ≤ p0.toInt ∧ p0.toInt ≤ 122 from by (first | exact om_201b8e8d33df f3 f6 | omega)))), (Imp.mk (fun hp => absurd hp (by decide)))⟩, by rw [ht]; exact hP, va_K.moved hW.alike hK, hD⟩, hS.F ht⟩) hS.2.2 dX9_isLetter_17
abbrev r_x_cutNumber2 : Room := { frames := 1, cells := 0, slots := 0, locals := 20 }
abbrev q_x_cutNumber2 (D : va_G) (ks : KS) (ad : Nat → Nat) (kk : Nat → ClassId) (V : Vf) (L : Lf) (Z : XZ) (gs : Nat) (A : Nat → Prop) : Array Value → State → Outcome → State → Prop := va_Qv (fun (u : Vf × Lf) => rgd bX u.1 ∧ agr [(6, 6)] [12, 14] V u.1 ∧ agL [14] L u.2 ∧ (∃ e : Nat, RUN isDg (V 10) (V 6 5).toInt.toNat gs e ∧ (u.1 6 6).toInt = (e : Int) ∧ (9 < e - gs → (u.1 12 (Int32.toNatClampNeg (V 6 7))).toInt = 1) ∧ (e - gs ≤ 9 → (u.1 12 (Int32.toNatClampNeg (V 6 7))).toInt = 2 ∧ u.2 14 (Int32.toNatClampNeg (V 6 7)) = nv (V 10) gs (e - gs))) ∧ (∀ k : Nat, k ≠ (Int32.toNatClampNeg (V 6 7)) → u.1 12 k = V 12 k ∧ u.2 14 k = L 14 k)) (fun u t => gq D A (xw ad kk u.1 u.2 Z) (xty kk Z) t) A
set_option maxHeartbeats 4000000 in
set_option maxRecDepth 100000 in
theorem x_cutNumber2 (l : Launch) (D : va_G) (ks : KS) (sz : Nat) (ad : Nat → Nat) (kk : Nat → ClassId) (V : Vf) (L : Lf) (Z : XZ) (gs : Nat) (hMV : rgd bX V) (rp1 : (V 6 6).toInt < (V 6 5).toInt) (rp2 : (V 6 7).toInt ≤ 3999) (rp3 : (V 6 6).toInt = (gs : Int)) (rp4 : isDg (V 10 gs))  : Met l yX9_cutNumber (Cond.code yX9_cutNumber cX9_cutNumber 4 none :: GW) r_x_cutNumber2 (va_Pc [.ref (ad 6)] (gp D ks (xw ad kk V L Z) (xty kk Z) sz)) (q_x_cutNumber2 D ks ad kk V L Z  gs (va_A (xw ad kk V L Z) sz)) 0 0 (va_A (xw ad kk V L Z) sz) := by
  refine g_met (q_x_cutNumber2 D ks ad kk V L Z  gs) (by decide) (Nat.le_of_ble_eq_true rfl) ?_
  intro p e s m below meth c A ls H locs hx hb hr hml hown hg hlocks hin hnw hgk hP hK hD hS hA hl
  have hown : s.vm.findClass RX9 = some m.cls := hown
  have hl : lv_has ls 4 [(0, .ref (ad 6))] := hl
  have hP : va_P D vwCl (xw ad kk V L Z) H := hP
  have hD : va_D A (xw ad kk V L Z) := hD
  have hK : va_K D vwCl (xty kk Z) s := hK
  have agV : agr [(6, 6)] [12, 14] V V := agr.rf
  have alL : agL [14] L L := agL.rf
  have r1 : 0 ≤ ((V 6 5)).toInt ∧ ((V 6 5)).toInt ≤ 4000 := hMV 6 5
  have r2 : 0 ≤ ((V 6 6)).toInt ∧ ((V 6 6)).toInt ≤ 4000 := hMV 6 6
  have r3 : 0 ≤ ((V 6 7)).toInt ∧ ((V 6 7)).toInt ≤ 4000 := hMV 6 7
  refine lv_iconst (v := 0) hx hb dX9_cutNumber_0 (by decide) ?_
  refine lv_istore_n (lv' := [(1, .int 0), (0, .ref (ad 6))]) hx hb dX9_cutNumber_1 rfl hl (by decide) rfl (fun ls hl => ?_)
  refine lv_lconst (v := 0) hx hb dX9_cutNumber_2 (by decide) ?_
  refine lv_lstore_n (lv' := [(2, .long 0), (1, .int 0), (0, .ref (ad 6))]) hx hb dX9_cutNumber_3 rfl hl (by decide) rfl (fun ls hl => ?_)
  have lp7 : ∀ (fulp7 : Nat) (y4 : Int64) (y5 : Int32) (V6 : Vf) (H : Heap) (locs : List Loc) (ls : Array Slot), 0 ≤ y5.toInt ∧ y5.toInt ≤ 4000 → (V6 6 6).toInt ≤ (V6 6 5).toInt → (V 6 6).toInt + y5.toInt = (V6 6 6).toInt → (∀ k : Nat, (k : Int) < y5.toInt → isDg (V 10 (gs + k))) → (y5.toInt ≤ 9 → y4 = nv (V 10) gs (y5.toInt).toNat) → (V6 6 5).toInt - (V6 6 6).toInt < (fulp7 : Int) → agr [(6, 6)] [] V V6 → rgd bX V6 → va_P D vwCl (xw ad kk V6 L Z) H → va_D A (xw ad kk V6 L Z) → va_S A s.heap H locs → lv_has ls 4 [(2, .long y4), (1, .int y5), (0, .ref (ad 6))] → W p l e r_x_cutNumber2 s m ([.ref (ad 6)] : List Value).toArray below meth c H locs 0 0 (MQ below (q_x_cutNumber2 D ks ad kk V L Z  gs A) ([.ref (ad 6)] : List Value).toArray s 0 0 A) (F0 m 4 ls []) := by
    intro fulp7
    induction fulp7 with
    | zero =>
      intro y4 y5 V6 H locs ls klp7_0 xlp7_0 xlp7_1 xlp7_2 xlp7_3 hn ajV6 hMV6 hP hD hS hl
      exfalso; omega
    | succ fulp7 ihlp7 =>
      intro y4 y5 V6 H locs ls klp7_0 xlp7_0 xlp7_1 xlp7_2 xlp7_3 hn ajV6 hMV6 hP hD hS hl
      have agV6 : agr [(6, 6)] [12, 14] V V6 := agV.tr ajV6 (by decide) (by decide)
      have pq8 : (V6 6 5).toInt = ((V 6 5)).toInt := congrArg Int32.toInt (ajV6 6 5 rfl)
      have r9 : 0 ≤ ((V6 6 6)).toInt ∧ ((V6 6 6)).toInt ≤ 4000 := hMV6 6 6
      refine lv_aload_n hx hb dX9_cutNumber_4 rfl (lv_at hl 2 rfl) ?_
      refine va_get (D := D) (ci := 9) (v := .int (V6 6 6)) (fs := (xfTape ad V6 L Z)) (C := RX9) (T := TX9) (N := 12) hx hb hg inX9 hown hK hP 6 xgTape rfl 6 (by decide) (hg _ w259) (fun _ h9 => h9) rfl dX9_cutNumber_5 ?_
      refine lv_aload_n hx hb dX9_cutNumber_8 rfl (lv_at hl 2 rfl) ?_
      refine va_get (D := D) (ci := 9) (v := .int (V6 6 5)) (fs := (xfTape ad V6 L Z)) (C := RX9) (T := TX9) (N := 12) hx hb hg inX9 hown hK hP 6 xgTape rfl 5 (by decide) (hg _ w258) (fun _ h9 => h9) rfl dX9_cutNumber_9 ?_
      refine g_top (v := (V 6 5)) (ajV6 6 5 rfl) ?_
      refine lv_icmp_ge (tgt := 77) hx hb dX9_cutNumber_12 (by decide) (fun c10 => ?_) (fun c10 => ?_)
      · skip
        have f11 : ((V 6 5)).toInt ≤ ((V6 6 6)).toInt := b_le rfl rfl c10
        refine lv_aload_n hx hb dX9_cutNumber_77 rfl (lv_at hl 2 rfl) ?_
        refine va_get (D := D) (ci := 9) (v := .ref (ad 9)) (fs := (xfTape ad V6 L Z)) (C := RX9) (T := TX9) (N := 12) hx hb hg inX9 hown hK hP 6 xgTape rfl 2 (by decide) (hg _ w254) (fun _ h9 => h9) rfl dX9_cutNumber_78 ?_
        refine lv_aload_n hx hb dX9_cutNumber_81 rfl (lv_at hl 2 rfl) ?_
        refine va_get (D := D) (ci := 9) (v := .int (V6 6 7)) (fs := (xfTape ad V6 L Z)) (C := RX9) (T := TX9) (N := 12) hx hb hg inX9 hown hK hP 6 xgTape rfl 7 (by decide) (hg _ w260) (fun _ h9 => h9) rfl dX9_cutNumber_82 ?_
        refine g_top (v := (V 6 7)) (ajV6 6 7 rfl) ?_
        refine lv_iload_n hx hb dX9_cutNumber_85 rfl (lv_at hl 1 rfl) ?_
        refine lv_bipush (v := 9) hx hb dX9_cutNumber_86 (by decide) ?_
        refine lv_icmp_le (tgt := 95) hx hb dX9_cutNumber_88 (by decide) (fun c12 => ?_) (fun c12 => ?_)
        · skip
          have f13 : y5.toInt ≤ 9 := b_le rfl (by decide) c12
          refine lv_iconst (v := 2) hx hb dX9_cutNumber_95 (by decide) ?_
          refine va_iast (D := D) (i := (V 6 7)) (x := 2) hx hb hK hP hD hS 9 2 rfl rfl (i_in (a := ((V 6 7)).toInt) rfl (by first | omega | ((try (have i_rp4 := Imp.go rp4 (by omega))); omega))) dX9_cutNumber_96 (fun H locs hP hD hS => ?_)
          obtain ⟨V14, hV14⟩ : ∃ z, z = up2 V6 12 (Int32.toNatClampNeg (V 6 7)) 2 := ⟨_, rfl⟩
          have ew15 : (xw ad kk V6 L Z).set 9 ((ad 9), .inl ((kk 9), 4001, .inl (upd (V6 12) (Int32.toNatClampNeg (V 6 7)) 2))) = xw ad kk V14 L Z := by rw [hV14]; exact xw_ss (by decide) rfl (xb_si (by decide))
          have hP : va_P D vwCl (xw ad kk V14 L Z) H := by rw [← ew15]; exact hP
          have hD : va_D A (xw ad kk V14 L Z) := by rw [← ew15]; exact hD
          have hMV14 : rgd bX V14 := hMV6.put hV14 (i_full _)
          have agV14 : agr [(6, 6)] [12, 14] V V14 := agV6.up hV14 rfl
          refine lv_aload_n hx hb dX9_cutNumber_97 rfl (lv_at hl 2 rfl) ?_
          refine va_get (D := D) (ci := 9) (v := .ref (ad 11)) (fs := (xfTape ad V14 L Z)) (C := RX9) (T := TX9) (N := 12) hx hb hg inX9 hown hK hP 6 xgTape rfl 4 (by decide) (hg _ w256) (fun _ h9 => h9) rfl dX9_cutNumber_98 ?_
          refine lv_aload_n hx hb dX9_cutNumber_101 rfl (lv_at hl 2 rfl) ?_
          refine va_get (D := D) (ci := 9) (v := .int (V14 6 7)) (fs := (xfTape ad V14 L Z)) (C := RX9) (T := TX9) (N := 12) hx hb hg inX9 hown hK hP 6 xgTape rfl 7 (by decide) (hg _ w260) (fun _ h9 => h9) rfl dX9_cutNumber_102 ?_
          refine g_top (v := (V 6 7)) ((up2_o hV14 (by decide)).trans (ajV6 6 7 rfl)) ?_
          refine lv_lload_n hx hb dX9_cutNumber_105 rfl (lv_at hl 0 rfl) ?_
          refine va_last (D := D) (i := (V 6 7)) (x := y4) hx hb hK hP hD hS 11 4 rfl rfl (i_in (a := ((V 6 7)).toInt) rfl (by first | omega | ((try (have i_rp4 := Imp.go rp4 (by omega))); omega))) dX9_cutNumber_106 (fun H locs hP hD hS => ?_)
          obtain ⟨L16, hL16⟩ : ∃ z, z = upL L 14 (Int32.toNatClampNeg (V 6 7)) y4 := ⟨_, rfl⟩
          have ew17 : (xw ad kk V14 L Z).set 11 ((ad 11), .inl ((kk 11), 4001, .inr (.inl (vp_updL (L 14) (Int32.toNatClampNeg (V 6 7)) y4)))) = xw ad kk V14 L16 Z := by rw [hL16]; exact xw_ss (by decide) rfl (fun j => xe_L (fun a => absurd a.1 (by decide)))
          have hP : va_P D vwCl (xw ad kk V14 L16 Z) H := by rw [← ew17]; exact hP
          have hD : va_D A (xw ad kk V14 L16 Z) := by rw [← ew17]; exact hD
          have alL16 : agL [14] L L16 := agL.up alL hL16 rfl
          have hl0 : 0 < y5.toInt.toNat := by first | omega | ((try (have i_rp4 := Imp.go rp4 (by omega))); omega)
          have hrun : RUN isDg (V 10) (V 6 5).toInt.toNat gs (gs + y5.toInt.toNat) := ⟨by omega, by first | omega | ((try (have i_rp4 := Imp.go rp4 (by omega))); omega), fun k a b => by have z := xlp7_2 (k - gs) (by omega); rw [show gs + (k - gs) = k from by omega] at z; exact z, Or.inl (by first | omega | ((try (have i_rp4 := Imp.go rp4 (by omega))); omega))⟩
          have hsub : gs + y5.toInt.toNat - gs = y5.toInt.toNat := Nat.add_sub_cancel_left _ _
          have pq18 : (V14 6 6).toInt = ((V6 6 6)).toInt := congrArg Int32.toInt (up2_o hV14 (by decide))
          have ek19 : V14 12 (Int32.toNatClampNeg (V 6 7)) = 2 := (up2_s hV14)
          have hL14 : L16 14 (Int32.toNatClampNeg (V 6 7)) = y4 := by rw [hL16]; unfold upL vp_updL; rw [if_pos rfl, if_pos rfl]
          have rp20 : ∃ e : Nat, RUN isDg (V 10) (V 6 5).toInt.toNat gs e ∧ (V14 6 6).toInt = (e : Int) ∧ (9 < e - gs → (V14 12 (Int32.toNatClampNeg (V 6 7))).toInt = 1) ∧ (e - gs ≤ 9 → (V14 12 (Int32.toNatClampNeg (V 6 7))).toInt = 2 ∧ L16 14 (Int32.toNatClampNeg (V 6 7)) = nv (V 10) gs (e - gs)) := ⟨_, hrun, by first | omega | ((try (have i_rp4 := Imp.go rp4 (by omega))); omega), fun h => by rw [hsub] at h; rw [ek19]; exfalso; omega, fun h => by rw [hsub] at h ⊢; exact ⟨(by rw [ek19]; decide), by rw [hL14]; exact xlp7_3 (by first | omega | ((try (have i_rp4 := Imp.go rp4 (by omega))); omega))⟩⟩
          have hF12 : V14 12 = upd (V 12) (Int32.toNatClampNeg (V 6 7)) 2 := by rw [up2_fn hV14, show V6 12 = V 12 from funext (fun q => ajV6 12 q rfl)]
          have rp21 : ∀ k : Nat, k ≠ (Int32.toNatClampNeg (V 6 7)) → V14 12 k = V 12 k ∧ L16 14 k = L 14 k := fun k hk => ⟨by rw [hF12]; exact if_neg hk, by rw [hL16]; unfold upL vp_updL; rw [if_pos rfl, if_neg hk]⟩
          exact W.vret hx hb hr (fun t ht hW => ⟨⟨(V14, L16), rfl, ⟨hMV14, agV14, alL16, rp20, rp21⟩, by rw [ht]; exact hP, va_K.moved hW.alike hK, hD⟩, hS.F ht⟩) hS.2.2 dX9_cutNumber_107
        · skip
          have f22 : 9 < y5.toInt := b_nle rfl (by decide) c12
          refine lv_iconst (v := 1) hx hb dX9_cutNumber_91 (by decide) ?_
          refine lv_goto (tgt := 96) hx hb dX9_cutNumber_92 (by decide) ?_
          refine va_iast (D := D) (i := (V 6 7)) (x := 1) hx hb hK hP hD hS 9 2 rfl rfl (i_in (a := ((V 6 7)).toInt) rfl (by first | omega | ((try (have i_rp4 := Imp.go rp4 (by omega))); omega))) dX9_cutNumber_96 (fun H locs hP hD hS => ?_)
          obtain ⟨V23, hV23⟩ : ∃ z, z = up2 V6 12 (Int32.toNatClampNeg (V 6 7)) 1 := ⟨_, rfl⟩
          have ew24 : (xw ad kk V6 L Z).set 9 ((ad 9), .inl ((kk 9), 4001, .inl (upd (V6 12) (Int32.toNatClampNeg (V 6 7)) 1))) = xw ad kk V23 L Z := by rw [hV23]; exact xw_ss (by decide) rfl (xb_si (by decide))
          have hP : va_P D vwCl (xw ad kk V23 L Z) H := by rw [← ew24]; exact hP
          have hD : va_D A (xw ad kk V23 L Z) := by rw [← ew24]; exact hD
          have hMV23 : rgd bX V23 := hMV6.put hV23 (i_full _)
          have agV23 : agr [(6, 6)] [12, 14] V V23 := agV6.up hV23 rfl
          refine lv_aload_n hx hb dX9_cutNumber_97 rfl (lv_at hl 2 rfl) ?_
          refine va_get (D := D) (ci := 9) (v := .ref (ad 11)) (fs := (xfTape ad V23 L Z)) (C := RX9) (T := TX9) (N := 12) hx hb hg inX9 hown hK hP 6 xgTape rfl 4 (by decide) (hg _ w256) (fun _ h9 => h9) rfl dX9_cutNumber_98 ?_
          refine lv_aload_n hx hb dX9_cutNumber_101 rfl (lv_at hl 2 rfl) ?_
          refine va_get (D := D) (ci := 9) (v := .int (V23 6 7)) (fs := (xfTape ad V23 L Z)) (C := RX9) (T := TX9) (N := 12) hx hb hg inX9 hown hK hP 6 xgTape rfl 7 (by decide) (hg _ w260) (fun _ h9 => h9) rfl dX9_cutNumber_102 ?_
          refine g_top (v := (V 6 7)) ((up2_o hV23 (by decide)).trans (ajV6 6 7 rfl)) ?_
          refine lv_lload_n hx hb dX9_cutNumber_105 rfl (lv_at hl 0 rfl) ?_
          refine va_last (D := D) (i := (V 6 7)) (x := y4) hx hb hK hP hD hS 11 4 rfl rfl (i_in (a := ((V 6 7)).toInt) rfl (by first | omega | ((try (have i_rp4 := Imp.go rp4 (by omega))); omega))) dX9_cutNumber_106 (fun H locs hP hD hS => ?_)
          obtain ⟨L25, hL25⟩ : ∃ z, z = upL L 14 (Int32.toNatClampNeg (V 6 7)) y4 := ⟨_, rfl⟩
          have ew26 : (xw ad kk V23 L Z).set 11 ((ad 11), .inl ((kk 11), 4001, .inr (.inl (vp_updL (L 14) (Int32.toNatClampNeg (V 6 7)) y4)))) = xw ad kk V23 L25 Z := by rw [hL25]; exact xw_ss (by decide) rfl (fun j => xe_L (fun a => absurd a.1 (by decide)))
          have hP : va_P D vwCl (xw ad kk V23 L25 Z) H := by rw [← ew26]; exact hP
          have hD : va_D A (xw ad kk V23 L25 Z) := by rw [← ew26]; exact hD
          have alL25 : agL [14] L L25 := agL.up alL hL25 rfl
          have hl0 : 0 < y5.toInt.toNat := by first | omega | ((try (have i_rp4 := Imp.go rp4 (by omega))); omega)
          have hrun : RUN isDg (V 10) (V 6 5).toInt.toNat gs (gs + y5.toInt.toNat) := ⟨by omega, by first | omega | ((try (have i_rp4 := Imp.go rp4 (by omega))); omega), fun k a b => by have z := xlp7_2 (k - gs) (by omega); rw [show gs + (k - gs) = k from by omega] at z; exact z, Or.inl (by first | omega | ((try (have i_rp4 := Imp.go rp4 (by omega))); omega))⟩
          have hsub : gs + y5.toInt.toNat - gs = y5.toInt.toNat := Nat.add_sub_cancel_left _ _
          have pq27 : (V23 6 6).toInt = ((V6 6 6)).toInt := congrArg Int32.toInt (up2_o hV23 (by decide))
          have ek28 : V23 12 (Int32.toNatClampNeg (V 6 7)) = 1 := (up2_s hV23)
          have hL14 : L25 14 (Int32.toNatClampNeg (V 6 7)) = y4 := by rw [hL25]; unfold upL vp_updL; rw [if_pos rfl, if_pos rfl]
          have rp29 : ∃ e : Nat, RUN isDg (V 10) (V 6 5).toInt.toNat gs e ∧ (V23 6 6).toInt = (e : Int) ∧ (9 < e - gs → (V23 12 (Int32.toNatClampNeg (V 6 7))).toInt = 1) ∧ (e - gs ≤ 9 → (V23 12 (Int32.toNatClampNeg (V 6 7))).toInt = 2 ∧ L25 14 (Int32.toNatClampNeg (V 6 7)) = nv (V 10) gs (e - gs)) := ⟨_, hrun, by first | omega | ((try (have i_rp4 := Imp.go rp4 (by omega))); omega), fun h => by rw [hsub] at h; rw [ek28]; decide, fun h => by rw [hsub] at h ⊢; exact ⟨(by rw [ek28]; exfalso; omega), by rw [hL14]; exact xlp7_3 (by first | omega | ((try (have i_rp4 := Imp.go rp4 (by omega))); omega))⟩⟩
          have hF12 : V23 12 = upd (V 12) (Int32.toNatClampNeg (V 6 7)) 1 := by rw [up2_fn hV23, show V6 12 = V 12 from funext (fun q => ajV6 12 q rfl)]
          have rp30 : ∀ k : Nat, k ≠ (Int32.toNatClampNeg (V 6 7)) → V23 12 k = V 12 k ∧ L25 14 k = L 14 k := fun k hk => ⟨by rw [hF12]; exact if_neg hk, by rw [hL25]; unfold upL vp_updL; rw [if_pos rfl, if_neg hk]⟩
          exact W.vret hx hb hr (fun t ht hW => ⟨⟨(V23, L25), rfl, ⟨hMV23, agV23, alL25, rp29, rp30⟩, by rw [ht]; exact hP, va_K.moved hW.alike hK, hD⟩, hS.F ht⟩) hS.2.2 dX9_cutNumber_107
      · skip
        have f31 : ((V6 6 6)).toInt < ((V 6 5)).toInt := b_nle rfl rfl c10
        refine lv_aload_n hx hb dX9_cutNumber_15 rfl (lv_at hl 2 rfl) ?_
        refine va_get (D := D) (ci := 9) (v := .ref (ad 7)) (fs := (xfTape ad V6 L Z)) (C := RX9) (T := TX9) (N := 12) hx hb hg inX9 hown hK hP 6 xgTape rfl 0 (by decide) (hg _ w252) (fun _ h9 => h9) rfl dX9_cutNumber_16 ?_
        refine lv_aload_n hx hb dX9_cutNumber_19 rfl (lv_at hl 2 rfl) ?_
        refine va_get (D := D) (ci := 9) (v := .int (V6 6 6)) (fs := (xfTape ad V6 L Z)) (C := RX9) (T := TX9) (N := 12) hx hb hg inX9 hown hK hP 6 xgTape rfl 6 (by decide) (hg _ w259) (fun _ h9 => h9) rfl dX9_cutNumber_20 ?_
        refine va_bald (D := D) (i := (V6 6 6)) hx hb hK hP 7 0 rfl rfl (i_in (a := ((V6 6 6)).toInt) rfl (by first | omega | ((try (have i_rp4 := Imp.go rp4 (by omega))); omega))) dX9_cutNumber_23 ?_
        refine g_top (v := (V 10 (Int32.toNatClampNeg (V6 6 6)))) (ajV6 10 (Int32.toNatClampNeg (V6 6 6)) rfl) ?_
        refine gE_int (g_runS (As := [.int (V 10 (Int32.toNatClampNeg (V6 6 6)))]) (rest := []) (wc := []) (tc := []) hx hb hml hown hg gw_self hP hD hK hS hA hnw hgk [] [] (by decide) rfl rfl (x_isDigit2 l D ks H.size (V 10 (Int32.toNatClampNeg (V6 6 6))) ) w249 w250 w157 w251 hdS_yX9_isDigit ⟨Nat.le_of_ble_eq_true rfl, Nat.le_of_ble_eq_true rfl⟩ rfl hl.1 rfl (Nat.le_of_ble_eq_true rfl) dX9_cutNumber_24 ⟨Nat.le_of_ble_eq_true rfl, Nat.le_of_ble_eq_true rfl⟩) hP hD hK hS hA (fun z32 u33 H locs w34 hP hD hK hS => ?_)
        obtain ⟨rgz32, t35, t36⟩ := w34
        have rgz32 : 0 ≤ z32.toInt ∧ z32.toInt ≤ 1 := rgz32
        have t35 : Imp (z32.toInt = 1) (48 ≤ ((V 10 (Int32.toNatClampNeg (V6 6 6)))).toInt ∧ ((V 10 (Int32.toNatClampNeg (V6 6 6)))).toInt ≤ 57) := t35
        have t36 : Imp (z32.toInt = 0) (((V 10 (Int32.toNatClampNeg (V6 6 6)))).toInt < 48 ∨ 57 < ((V 10 (Int32.toNatClampNeg (V6 6 6)))).toInt) := t36
        refine lv_if_eq (tgt := 77) hx hb dX9_cutNumber_27 (by decide) (fun c37 => ?_) (fun c37 => ?_)
        · skip
          have f38 : z32.toInt = 0 := b_eq rfl (by decide) c37
          refine lv_aload_n hx hb dX9_cutNumber_77 rfl (lv_at hl 2 rfl) ?_
          refine va_get (D := D) (ci := 9) (v := .ref (ad 9)) (fs := (xfTape ad V6 L Z)) (C := RX9) (T := TX9) (N := 12) hx hb hg inX9 hown hK hP 6 xgTape rfl 2 (by decide) (hg _ w254) (fun _ h9 => h9) rfl dX9_cutNumber_78 ?_
          refine lv_aload_n hx hb dX9_cutNumber_81 rfl (lv_at hl 2 rfl) ?_
          refine va_get (D := D) (ci := 9) (v := .int (V6 6 7)) (fs := (xfTape ad V6 L Z)) (C := RX9) (T := TX9) (N := 12) hx hb hg inX9 hown hK hP 6 xgTape rfl 7 (by decide) (hg _ w260) (fun _ h9 => h9) rfl dX9_cutNumber_82 ?_
          refine g_top (v := (V 6 7)) (ajV6 6 7 rfl) ?_
          refine lv_iload_n hx hb dX9_cutNumber_85 rfl (lv_at hl 1 rfl) ?_
          refine lv_bipush (v := 9) hx hb dX9_cutNumber_86 (by decide) ?_
          refine lv_icmp_le (tgt := 95) hx hb dX9_cutNumber_88 (by decide) (fun c39 => ?_) (fun c39 => ?_)
          · skip
            have f40 : y5.toInt ≤ 9 := b_le rfl (by decide) c39
            refine lv_iconst (v := 2) hx hb dX9_cutNumber_95 (by decide) ?_
            refine va_iast (D := D) (i := (V 6 7)) (x := 2) hx hb hK hP hD hS 9 2 rfl rfl (i_in (a := ((V 6 7)).toInt) rfl (by first | omega | ((try (have i_t36 := Imp.go t36 (by omega))); (try (have i_t35 := Imp.go t35 (by omega))); (try (have i_rp4 := Imp.go rp4 (by omega))); (try (have i_rp4 := Imp.go rp4 (by omega))); (try (have i_t35 := Imp.go t35 (by omega))); (try (have i_t36 := Imp.go t36 (by omega))); omega))) dX9_cutNumber_96 (fun H locs hP hD hS => ?_)
            obtain ⟨V41, hV41⟩ : ∃ z, z = up2 V6 12 (Int32.toNatClampNeg (V 6 7)) 2 := ⟨_, rfl⟩
            have ew42 : (xw ad kk V6 L Z).set 9 ((ad 9), .inl ((kk 9), 4001, .inl (upd (V6 12) (Int32.toNatClampNeg (V 6 7)) 2))) = xw ad kk V41 L Z := by rw [hV41]; exact xw_ss (by decide) rfl (xb_si (by decide))
            have hP : va_P D vwCl (xw ad kk V41 L Z) H := by rw [← ew42]; exact hP
            have hD : va_D A (xw ad kk V41 L Z) := by rw [← ew42]; exact hD
            have hMV41 : rgd bX V41 := hMV6.put hV41 (i_full _)
            have agV41 : agr [(6, 6)] [12, 14] V V41 := agV6.up hV41 rfl
            refine lv_aload_n hx hb dX9_cutNumber_97 rfl (lv_at hl 2 rfl) ?_
            refine va_get (D := D) (ci := 9) (v := .ref (ad 11)) (fs := (xfTape ad V41 L Z)) (C := RX9) (T := TX9) (N := 12) hx hb hg inX9 hown hK hP 6 xgTape rfl 4 (by decide) (hg _ w256) (fun _ h9 => h9) rfl dX9_cutNumber_98 ?_
            refine lv_aload_n hx hb dX9_cutNumber_101 rfl (lv_at hl 2 rfl) ?_
            refine va_get (D := D) (ci := 9) (v := .int (V41 6 7)) (fs := (xfTape ad V41 L Z)) (C := RX9) (T := TX9) (N := 12) hx hb hg inX9 hown hK hP 6 xgTape rfl 7 (by decide) (hg _ w260) (fun _ h9 => h9) rfl dX9_cutNumber_102 ?_
            refine g_top (v := (V 6 7)) ((up2_o hV41 (by decide)).trans (ajV6 6 7 rfl)) ?_
            refine lv_lload_n hx hb dX9_cutNumber_105 rfl (lv_at hl 0 rfl) ?_
            refine va_last (D := D) (i := (V 6 7)) (x := y4) hx hb hK hP hD hS 11 4 rfl rfl (i_in (a := ((V 6 7)).toInt) rfl (by first | omega | ((try (have i_t36 := Imp.go t36 (by omega))); (try (have i_t35 := Imp.go t35 (by omega))); (try (have i_rp4 := Imp.go rp4 (by omega))); (try (have i_rp4 := Imp.go rp4 (by omega))); (try (have i_t35 := Imp.go t35 (by omega))); (try (have i_t36 := Imp.go t36 (by omega))); omega))) dX9_cutNumber_106 (fun H locs hP hD hS => ?_)
            obtain ⟨L43, hL43⟩ : ∃ z, z = upL L 14 (Int32.toNatClampNeg (V 6 7)) y4 := ⟨_, rfl⟩
            have ew44 : (xw ad kk V41 L Z).set 11 ((ad 11), .inl ((kk 11), 4001, .inr (.inl (vp_updL (L 14) (Int32.toNatClampNeg (V 6 7)) y4)))) = xw ad kk V41 L43 Z := by rw [hL43]; exact xw_ss (by decide) rfl (fun j => xe_L (fun a => absurd a.1 (by decide)))
            have hP : va_P D vwCl (xw ad kk V41 L43 Z) H := by rw [← ew44]; exact hP
            have hD : va_D A (xw ad kk V41 L43 Z) := by rw [← ew44]; exact hD
            have alL43 : agL [14] L L43 := agL.up alL hL43 rfl
            have kz45 := i_clamp (x := (V6 6 6)) rfl (by first | exact om_fb56619e55db r2.1 klp7_0.1 xlp7_1 | first | omega | ((try (have i_t36 := Imp.go t36 (by omega))); (try (have i_t35 := Imp.go t35 (by omega))); (try (have i_rp4 := Imp.go rp4 (by omega))); (try (have i_rp4 := Imp.go rp4 (by omega))); (try (have i_t35 := Imp.go t35 (by omega))); (try (have i_t36 := Imp.go t36 (by omega))); omega))
            have ek47 : Int32.toNatClampNeg (V6 6 6) = gs + y5.toInt.toNat := by first | omega | ((try (have i_t36 := Imp.go t36 (by omega))); (try (have i_t35 := Imp.go t35 (by omega))); (try (have i_rp4 := Imp.go rp4 (by omega))); (try (have i_rp4 := Imp.go rp4 (by omega))); (try (have i_t35 := Imp.go t35 (by omega))); (try (have i_t36 := Imp.go t36 (by omega))); omega)
            have er46 : (V 10 (Int32.toNatClampNeg (V6 6 6))) = V 10 (gs + y5.toInt.toNat) := by rw [ek47]
            have nd48 : ¬ isDg (V 10 (gs + y5.toInt.toNat)) := by rw [← er46]; exact (fun q => by have z := Imp.go t36 (by omega); have q1 := q.1; have q2 := q.2; omega)
            have hl0 : 0 < y5.toInt.toNat := Nat.pos_of_ne_zero (fun h0 => nd48 (by rw [h0]; exact rp4))
            have hrun : RUN isDg (V 10) (V 6 5).toInt.toNat gs (gs + y5.toInt.toNat) := ⟨by omega, by first | omega | ((try (have i_t36 := Imp.go t36 (by omega))); (try (have i_t35 := Imp.go t35 (by omega))); (try (have i_rp4 := Imp.go rp4 (by omega))); (try (have i_rp4 := Imp.go rp4 (by omega))); (try (have i_t35 := Imp.go t35 (by omega))); (try (have i_t36 := Imp.go t36 (by omega))); omega), fun k a b => by have z := xlp7_2 (k - gs) (by omega); rw [show gs + (k - gs) = k from by omega] at z; exact z, Or.inr nd48⟩
            have hsub : gs + y5.toInt.toNat - gs = y5.toInt.toNat := Nat.add_sub_cancel_left _ _
            have pq49 : (V41 6 6).toInt = ((V6 6 6)).toInt := congrArg Int32.toInt (up2_o hV41 (by decide))
            have ek50 : V41 12 (Int32.toNatClampNeg (V 6 7)) = 2 := (up2_s hV41)
            have hL14 : L43 14 (Int32.toNatClampNeg (V 6 7)) = y4 := by rw [hL43]; unfold upL vp_updL; rw [if_pos rfl, if_pos rfl]
            have rp51 : ∃ e : Nat, RUN isDg (V 10) (V 6 5).toInt.toNat gs e ∧ (V41 6 6).toInt = (e : Int) ∧ (9 < e - gs → (V41 12 (Int32.toNatClampNeg (V 6 7))).toInt = 1) ∧ (e - gs ≤ 9 → (V41 12 (Int32.toNatClampNeg (V 6 7))).toInt = 2 ∧ L43 14 (Int32.toNatClampNeg (V 6 7)) = nv (V 10) gs (e - gs)) := ⟨_, hrun, by first | omega | ((try (have i_t36 := Imp.go t36 (by omega))); (try (have i_t35 := Imp.go t35 (by omega))); (try (have i_rp4 := Imp.go rp4 (by omega))); (try (have i_rp4 := Imp.go rp4 (by omega))); (try (have i_t35 := Imp.go t35 (by omega))); (try (have i_t36 := Imp.go t36 (by omega))); omega), fun h => by rw [hsub] at h; rw [ek50]; exfalso; omega, fun h => by rw [hsub] at h ⊢; exact ⟨(by rw [ek50]; decide), by rw [hL14]; exact xlp7_3 (by first | omega | ((try (have i_t36 := Imp.go t36 (by omega))); (try (have i_t35 := Imp.go t35 (by omega))); (try (have i_rp4 := Imp.go rp4 (by omega))); (try (have i_rp4 := Imp.go rp4 (by omega))); (try (have i_t35 := Imp.go t35 (by omega))); (try (have i_t36 := Imp.go t36 (by omega))); omega))⟩⟩
            have hF12 : V41 12 = upd (V 12) (Int32.toNatClampNeg (V 6 7)) 2 := by rw [up2_fn hV41, show V6 12 = V 12 from funext (fun q => ajV6 12 q rfl)]
            have rp52 : ∀ k : Nat, k ≠ (Int32.toNatClampNeg (V 6 7)) → V41 12 k = V 12 k ∧ L43 14 k = L 14 k := fun k hk => ⟨by rw [hF12]; exact if_neg hk, by rw [hL43]; unfold upL vp_updL; rw [if_pos rfl, if_neg hk]⟩
            exact W.vret hx hb hr (fun t ht hW => ⟨⟨(V41, L43), rfl, ⟨hMV41, agV41, alL43, rp51, rp52⟩, by rw [ht]; exact hP, va_K.moved hW.alike hK, hD⟩, hS.F ht⟩) hS.2.2 dX9_cutNumber_107
          · skip
            have f53 : 9 < y5.toInt := b_nle rfl (by decide) c39
            refine lv_iconst (v := 1) hx hb dX9_cutNumber_91 (by decide) ?_
            refine lv_goto (tgt := 96) hx hb dX9_cutNumber_92 (by decide) ?_
            refine va_iast (D := D) (i := (V 6 7)) (x := 1) hx hb hK hP hD hS 9 2 rfl rfl (i_in (a := ((V 6 7)).toInt) rfl (by first | omega | ((try (have i_t36 := Imp.go t36 (by omega))); (try (have i_t35 := Imp.go t35 (by omega))); (try (have i_rp4 := Imp.go rp4 (by omega))); (try (have i_rp4 := Imp.go rp4 (by omega))); (try (have i_t35 := Imp.go t35 (by omega))); (try (have i_t36 := Imp.go t36 (by omega))); omega))) dX9_cutNumber_96 (fun H locs hP hD hS => ?_)
            obtain ⟨V54, hV54⟩ : ∃ z, z = up2 V6 12 (Int32.toNatClampNeg (V 6 7)) 1 := ⟨_, rfl⟩
            have ew55 : (xw ad kk V6 L Z).set 9 ((ad 9), .inl ((kk 9), 4001, .inl (upd (V6 12) (Int32.toNatClampNeg (V 6 7)) 1))) = xw ad kk V54 L Z := by rw [hV54]; exact xw_ss (by decide) rfl (xb_si (by decide))
            have hP : va_P D vwCl (xw ad kk V54 L Z) H := by rw [← ew55]; exact hP
            have hD : va_D A (xw ad kk V54 L Z) := by rw [← ew55]; exact hD
            have hMV54 : rgd bX V54 := hMV6.put hV54 (i_full _)
            have agV54 : agr [(6, 6)] [12, 14] V V54 := agV6.up hV54 rfl
            refine lv_aload_n hx hb dX9_cutNumber_97 rfl (lv_at hl 2 rfl) ?_
            refine va_get (D := D) (ci := 9) (v := .ref (ad 11)) (fs := (xfTape ad V54 L Z)) (C := RX9) (T := TX9) (N := 12) hx hb hg inX9 hown hK hP 6 xgTape rfl 4 (by decide) (hg _ w256) (fun _ h9 => h9) rfl dX9_cutNumber_98 ?_
            refine lv_aload_n hx hb dX9_cutNumber_101 rfl (lv_at hl 2 rfl) ?_
            refine va_get (D := D) (ci := 9) (v := .int (V54 6 7)) (fs := (xfTape ad V54 L Z)) (C := RX9) (T := TX9) (N := 12) hx hb hg inX9 hown hK hP 6 xgTape rfl 7 (by decide) (hg _ w260) (fun _ h9 => h9) rfl dX9_cutNumber_102 ?_
            refine g_top (v := (V 6 7)) ((up2_o hV54 (by decide)).trans (ajV6 6 7 rfl)) ?_
            refine lv_lload_n hx hb dX9_cutNumber_105 rfl (lv_at hl 0 rfl) ?_
            refine va_last (D := D) (i := (V 6 7)) (x := y4) hx hb hK hP hD hS 11 4 rfl rfl (i_in (a := ((V 6 7)).toInt) rfl (by first | omega | ((try (have i_t36 := Imp.go t36 (by omega))); (try (have i_t35 := Imp.go t35 (by omega))); (try (have i_rp4 := Imp.go rp4 (by omega))); (try (have i_rp4 := Imp.go rp4 (by omega))); (try (have i_t35 := Imp.go t35 (by omega))); (try (have i_t36 := Imp.go t36 (by omega))); omega))) dX9_cutNumber_106 (fun H locs hP hD hS => ?_)
            obtain ⟨L56, hL56⟩ : ∃ z, z = upL L 14 (Int32.toNatClampNeg (V 6 7)) y4 := ⟨_, rfl⟩
            have ew57 : (xw ad kk V54 L Z).set 11 ((ad 11), .inl ((kk 11), 4001, .inr (.inl (vp_updL (L 14) (Int32.toNatClampNeg (V 6 7)) y4)))) = xw ad kk V54 L56 Z := by rw [hL56]; exact xw_ss (by decide) rfl (fun j => xe_L (fun a => absurd a.1 (by decide)))
            have hP : va_P D vwCl (xw ad kk V54 L56 Z) H := by rw [← ew57]; exact hP
            have hD : va_D A (xw ad kk V54 L56 Z) := by rw [← ew57]; exact hD
            have alL56 : agL [14] L L56 := agL.up alL hL56 rfl
            have kz58 := i_clamp (x := (V6 6 6)) rfl (by first | exact om_992382949368 r2.1 xlp7_1 f53 | first | omega | ((try (have i_t36 := Imp.go t36 (by omega))); (try (have i_t35 := Imp.go t35 (by omega))); (try (have i_rp4 := Imp.go rp4 (by omega))); (try (have i_rp4 := Imp.go rp4 (by omega))); (try (have i_t35 := Imp.go t35 (by omega))); (try (have i_t36 := Imp.go t36 (by omega))); omega))
            have ek60 : Int32.toNatClampNeg (V6 6 6) = gs + y5.toInt.toNat := by first | omega | ((try (have i_t36 := Imp.go t36 (by omega))); (try (have i_t35 := Imp.go t35 (by omega))); (try (have i_rp4 := Imp.go rp4 (by omega))); (try (have i_rp4 := Imp.go rp4 (by omega))); (try (have i_t35 := Imp.go t35 (by omega))); (try (have i_t36 := Imp.go t36 (by omega))); omega)
            have er59 : (V 10 (Int32.toNatClampNeg (V6 6 6))) = V 10 (gs + y5.toInt.toNat) := by rw [ek60]
            have nd61 : ¬ isDg (V 10 (gs + y5.toInt.toNat)) := by rw [← er59]; exact (fun q => by have z := Imp.go t36 (by omega); have q1 := q.1; have q2 := q.2; omega)
            have hl0 : 0 < y5.toInt.toNat := Nat.pos_of_ne_zero (fun h0 => nd61 (by rw [h0]; exact rp4))
            have hrun : RUN isDg (V 10) (V 6 5).toInt.toNat gs (gs + y5.toInt.toNat) := ⟨by omega, by first | omega | ((try (have i_t36 := Imp.go t36 (by omega))); (try (have i_t35 := Imp.go t35 (by omega))); (try (have i_rp4 := Imp.go rp4 (by omega))); (try (have i_rp4 := Imp.go rp4 (by omega))); (try (have i_t35 := Imp.go t35 (by omega))); (try (have i_t36 := Imp.go t36 (by omega))); omega), fun k a b => by have z := xlp7_2 (k - gs) (by omega); rw [show gs + (k - gs) = k from by omega] at z; exact z, Or.inr nd61⟩
            have hsub : gs + y5.toInt.toNat - gs = y5.toInt.toNat := Nat.add_sub_cancel_left _ _
            have pq62 : (V54 6 6).toInt = ((V6 6 6)).toInt := congrArg Int32.toInt (up2_o hV54 (by decide))
            have ek63 : V54 12 (Int32.toNatClampNeg (V 6 7)) = 1 := (up2_s hV54)
            have hL14 : L56 14 (Int32.toNatClampNeg (V 6 7)) = y4 := by rw [hL56]; unfold upL vp_updL; rw [if_pos rfl, if_pos rfl]
            have rp64 : ∃ e : Nat, RUN isDg (V 10) (V 6 5).toInt.toNat gs e ∧ (V54 6 6).toInt = (e : Int) ∧ (9 < e - gs → (V54 12 (Int32.toNatClampNeg (V 6 7))).toInt = 1) ∧ (e - gs ≤ 9 → (V54 12 (Int32.toNatClampNeg (V 6 7))).toInt = 2 ∧ L56 14 (Int32.toNatClampNeg (V 6 7)) = nv (V 10) gs (e - gs)) := ⟨_, hrun, by first | omega | ((try (have i_t36 := Imp.go t36 (by omega))); (try (have i_t35 := Imp.go t35 (by omega))); (try (have i_rp4 := Imp.go rp4 (by omega))); (try (have i_rp4 := Imp.go rp4 (by omega))); (try (have i_t35 := Imp.go t35 (by omega))); (try (have i_t36 := Imp.go t36 (by omega))); omega), fun h => by rw [hsub] at h; rw [ek63]; decide, fun h => by rw [hsub] at h ⊢; exact ⟨(by rw [ek63]; exfalso; omega), by rw [hL14]; exact xlp7_3 (by first | omega | ((try (have i_t36 := Imp.go t36 (by omega))); (try (have i_t35 := Imp.go t35 (by omega))); (try (have i_rp4 := Imp.go rp4 (by omega))); (try (have i_rp4 := Imp.go rp4 (by omega))); (try (have i_t35 := Imp.go t35 (by omega))); (try (have i_t36 := Imp.go t36 (by omega))); omega))⟩⟩
            have hF12 : V54 12 = upd (V 12) (Int32.toNatClampNeg (V 6 7)) 1 := by rw [up2_fn hV54, show V6 12 = V 12 from funext (fun q => ajV6 12 q rfl)]
            have rp65 : ∀ k : Nat, k ≠ (Int32.toNatClampNeg (V 6 7)) → V54 12 k = V 12 k ∧ L56 14 k = L 14 k := fun k hk => ⟨by rw [hF12]; exact if_neg hk, by rw [hL56]; unfold upL vp_updL; rw [if_pos rfl, if_neg hk]⟩
            exact W.vret hx hb hr (fun t ht hW => ⟨⟨(V54, L56), rfl, ⟨hMV54, agV54, alL56, rp64, rp65⟩, by rw [ht]; exact hP, va_K.moved hW.alike hK, hD⟩, hS.F ht⟩) hS.2.2 dX9_cutNumber_107
        · skip
          have f66 : z32.toInt ≠ 0 := b_neq rfl (by decide) c37
          refine lv_iload_n hx hb dX9_cutNumber_30 rfl (lv_at hl 1 rfl) ?_
          refine lv_bipush (v := 9) hx hb dX9_cutNumber_31 (by decide) ?_
          refine lv_icmp_ge (tgt := 59) hx hb dX9_cutNumber_33 (by decide) (fun c67 => ?_) (fun c67 => ?_)
          · skip
            have f68 : 9 ≤ y5.toInt := b_le (by decide) rfl c67
            refine lv_lconst (v := 0) hx hb dX9_cutNumber_59 (by decide) ?_
            refine lv_lstore_n (lv' := [(2, .long 0), (1, .int y5), (0, .ref (ad 6))]) hx hb dX9_cutNumber_60 rfl hl (by decide) rfl (fun ls hl => ?_)
            obtain ⟨z69, ez69⟩ : ∃ y : Int32, y = y5 + 1 := ⟨_, rfl⟩
            have hz69 : z69.toInt = y5.toInt + 1 := i_add ez69 rfl (by decide) (by (first | exact om_2bd216318aa2 r1.2 r2.1 xlp7_1 f31 f68 | omega))
            refine lv_iinc (v := z69) (lv' := [(1, .int z69), (2, .long 0), (0, .ref (ad 6))]) hx hb dX9_cutNumber_61 hl (k := 1) rfl (by rw [ez69]; rfl) (by decide) rfl (fun ls hl => ?_)
            refine lv_aload_n hx hb dX9_cutNumber_64 rfl (lv_at hl 2 rfl) ?_
            refine lv_dup hx hb dX9_cutNumber_65 rfl ?_
            refine va_get (D := D) (ci := 9) (v := .int (V6 6 6)) (fs := (xfTape ad V6 L Z)) (C := RX9) (T := TX9) (N := 12) hx hb hg inX9 hown hK hP 6 xgTape rfl 6 (by decide) (hg _ w259) (fun _ h9 => h9) rfl dX9_cutNumber_66 ?_
            refine lv_iconst (v := 1) hx hb dX9_cutNumber_69 (by decide) ?_
            refine lv_iadd hx hb dX9_cutNumber_70 ?_
            refine lv_topi (fun z70 ez70 => ?_)
            have hz70 : z70.toInt = ((V6 6 6)).toInt + 1 := i_add ez70 rfl (by decide) (by (first | exact om_0af9c8bac061 r1.2 r2.1 xlp7_1 f31 f68 | omega))
            refine va_put (D := D) (ci := 9) (v := .int z70) (ty := tyX9 6) (fs := (xfTape ad V6 L Z)) (C := RX9) (T := TX9) (N := 12) hx hb hg inX9 tyX9 tyX9_ok nmX9 hown hK hP hD hS 6 xgTape rfl 6 (by decide) (hg _ w259) (fun _ h9 => h9) rfl (tyX9_ok 6 (by decide)) rfl rfl (Nat.le_of_ble_eq_true rfl) dX9_cutNumber_71 (fun H locs hP hD hS => ?_)
            obtain ⟨V71, hV71⟩ : ∃ z, z = up2 V6 6 6 z70 := ⟨_, rfl⟩
            have ew72 : (xw ad kk V6 L Z).set 6 ((ad 6), .inr (9, (xfTape ad V6 L Z).set 6 (.int z70))) = xw ad kk V71 L Z := by rw [hV71]; exact xw_ss (by decide) rfl (xb_si (by decide))
            have hP : va_P D vwCl (xw ad kk V71 L Z) H := by rw [← ew72]; exact hP
            have hD : va_D A (xw ad kk V71 L Z) := by rw [← ew72]; exact hD
            have hMV71 : rgd bX V71 := hMV6.put hV71 (show 0 ≤ z70.toInt ∧ z70.toInt ≤ 4000 from by first | exact om_5132599afa3b r1.2 r2.1 xlp7_1 f31 f68 hz70 | first | omega | ((try (have i_t36 := Imp.go t36 (by omega))); (try (have i_t35 := Imp.go t35 (by omega))); (try (have i_rp4 := Imp.go rp4 (by omega))); (try (have i_rp4 := Imp.go rp4 (by omega))); (try (have i_t35 := Imp.go t35 (by omega))); (try (have i_t36 := Imp.go t36 (by omega))); omega))
            have agV71 : agr [(6, 6)] [12, 14] V V71 := agV6.up hV71 rfl
            refine lv_goto (tgt := 4) hx hb dX9_cutNumber_74 (by decide) ?_
            have pq73 : (V71 6 5).toInt = ((V 6 5)).toInt := congrArg Int32.toInt ((up2_k hV71 (by decide)).trans (ajV6 6 5 rfl))
            have pq74 : (V71 6 6).toInt = z70.toInt := congrArg Int32.toInt (up2_s hV71)
            have kz75 := i_clamp (x := (V6 6 6)) rfl (by first | exact om_b5df54a3bb43 r2.1 xlp7_1 f68 | first | omega | ((try (have i_t36 := Imp.go t36 (by omega))); (try (have i_t35 := Imp.go t35 (by omega))); (try (have i_rp4 := Imp.go rp4 (by omega))); (try (have i_rp4 := Imp.go rp4 (by omega))); (try (have i_t35 := Imp.go t35 (by omega))); (try (have i_t36 := Imp.go t36 (by omega))); omega))
            have ek77 : Int32.toNatClampNeg (V6 6 6) = gs + y5.toInt.toNat := by first | omega | ((try (have i_t36 := Imp.go t36 (by omega))); (try (have i_t35 := Imp.go t35 (by omega))); (try (have i_rp4 := Imp.go rp4 (by omega))); (try (have i_rp4 := Imp.go rp4 (by omega))); (try (have i_t35 := Imp.go t35 (by omega))); (try (have i_t36 := Imp.go t36 (by omega))); omega)
            have er76 : (V 10 (Int32.toNatClampNeg (V6 6 6))) = V 10 (gs + y5.toInt.toNat) := by rw [ek77]
            have hp78 : isDg (V 10 (Int32.toNatClampNeg (V6 6 6))) := Imp.go t35 (by omega)
            exact ihlp7 0 z69 V71 H locs ls (by first | exact om_c7b799122141 rp3 r1.2 xlp7_1 f31 f68 hz69 | first | omega | ((try (have i_t36 := Imp.go t36 (by omega))); (try (have i_t35 := Imp.go t35 (by omega))); (try (have i_rp4 := Imp.go rp4 (by omega))); (try (have i_rp4 := Imp.go rp4 (by omega))); (try (have i_t35 := Imp.go t35 (by omega))); (try (have i_t36 := Imp.go t36 (by omega))); omega)) (show (V71 6 6).toInt ≤ (V71 6 5).toInt from by first | exact om_1257dc0753d6 f31 hz70 pq73 pq74 | first | omega | ((try (have i_t36 := Imp.go t36 (by omega))); (try (have i_t35 := Imp.go t35 (by omega))); (try (have i_rp4 := Imp.go rp4 (by omega))); (try (have i_rp4 := Imp.go rp4 (by omega))); (try (have i_t35 := Imp.go t35 (by omega))); (try (have i_t36 := Imp.go t36 (by omega))); omega)) (show (V 6 6).toInt + z69.toInt = (V71 6 6).toInt from by first | exact om_662a1892167c xlp7_1 hz69 hz70 pq74 | first | omega | ((try (have i_t36 := Imp.go t36 (by omega))); (try (have i_t35 := Imp.go t35 (by omega))); (try (have i_rp4 := Imp.go rp4 (by omega))); (try (have i_rp4 := Imp.go rp4 (by omega))); (try (have i_t35 := Imp.go t35 (by omega))); (try (have i_t36 := Imp.go t36 (by omega))); omega)) (fun k h => by by_cases c : (k : Int) < y5.toInt; exact xlp7_2 k c; have ek : k = y5.toInt.toNat := (by first | omega | ((try (have i_t36 := Imp.go t36 (by omega))); (try (have i_t35 := Imp.go t35 (by omega))); (try (have i_rp4 := Imp.go rp4 (by omega))); (try (have i_rp4 := Imp.go rp4 (by omega))); (try (have i_t35 := Imp.go t35 (by omega))); (try (have i_t36 := Imp.go t36 (by omega))); omega)); rw [ek, ← er76]; exact hp78) (fun h => absurd h (by first | omega | ((try (have i_t36 := Imp.go t36 (by omega))); (try (have i_t35 := Imp.go t35 (by omega))); (try (have i_rp4 := Imp.go rp4 (by omega))); (try (have i_rp4 := Imp.go rp4 (by omega))); (try (have i_t35 := Imp.go t35 (by omega))); (try (have i_t36 := Imp.go t36 (by omega))); omega))) (by first | exact om_91b464413286 hn pq8 hz70 pq73 pq74 | first | omega | ((try (have i_t36 := Imp.go t36 (by omega))); (try (have i_t35 := Imp.go t35 (by omega))); (try (have i_rp4 := Imp.go rp4 (by omega))); (try (have i_rp4 := Imp.go rp4 (by omega))); (try (have i_t35 := Imp.go t35 (by omega))); (try (have i_t36 := Imp.go t36 (by omega))); omega)) (agr.up (agr.tr agr.rf ajV6 (by decide) (by decide)) hV71 rfl) hMV71 hP hD hS (lv_sub hl [1, 0, 2] rfl)
          · skip
            have f79 : y5.toInt < 9 := b_nle (by decide) rfl c67
            refine lv_lload_n hx hb dX9_cutNumber_36 rfl (lv_at hl 0 rfl) ?_
            refine lv_ldc2 (v := 10) hx hb hown (hg _ w778) dX9_cutNumber_37 ?_
            refine lv_lmul hx hb dX9_cutNumber_40 ?_
            refine lv_topl (fun w80 ew80 => ?_)
            refine lv_aload_n hx hb dX9_cutNumber_41 rfl (lv_at hl 2 rfl) ?_
            refine va_get (D := D) (ci := 9) (v := .ref (ad 7)) (fs := (xfTape ad V6 L Z)) (C := RX9) (T := TX9) (N := 12) hx hb hg inX9 hown hK hP 6 xgTape rfl 0 (by decide) (hg _ w252) (fun _ h9 => h9) rfl dX9_cutNumber_42 ?_
            refine lv_aload_n hx hb dX9_cutNumber_45 rfl (lv_at hl 2 rfl) ?_
            refine va_get (D := D) (ci := 9) (v := .int (V6 6 6)) (fs := (xfTape ad V6 L Z)) (C := RX9) (T := TX9) (N := 12) hx hb hg inX9 hown hK hP 6 xgTape rfl 6 (by decide) (hg _ w259) (fun _ h9 => h9) rfl dX9_cutNumber_46 ?_
            refine va_bald (D := D) (i := (V6 6 6)) hx hb hK hP 7 0 rfl rfl (i_in (a := ((V6 6 6)).toInt) rfl (by first | omega | ((try (have i_t36 := Imp.go t36 (by omega))); (try (have i_t35 := Imp.go t35 (by omega))); (try (have i_rp4 := Imp.go rp4 (by omega))); (try (have i_rp4 := Imp.go rp4 (by omega))); (try (have i_t35 := Imp.go t35 (by omega))); (try (have i_t36 := Imp.go t36 (by omega))); omega))) dX9_cutNumber_49 ?_
            refine g_top (v := (V 10 (Int32.toNatClampNeg (V6 6 6)))) (ajV6 10 (Int32.toNatClampNeg (V6 6 6)) rfl) ?_
            refine lv_i2l hx hb dX9_cutNumber_50 rfl ?_
            refine lv_topl (fun w81 ew81 => ?_)
            refine lv_ladd hx hb dX9_cutNumber_51 ?_
            refine lv_topl (fun w82 ew82 => ?_)
            refine lv_ldc2 (v := 48) hx hb hown (hg _ w779) dX9_cutNumber_52 ?_
            refine lv_lsub hx hb dX9_cutNumber_55 ?_
            refine lv_topl (fun w83 ew83 => ?_)
            refine lv_goto (tgt := 60) hx hb dX9_cutNumber_56 (by decide) ?_
            refine lv_lstore_n (lv' := [(2, .long w83), (1, .int y5), (0, .ref (ad 6))]) hx hb dX9_cutNumber_60 rfl hl (by decide) rfl (fun ls hl => ?_)
            obtain ⟨z84, ez84⟩ : ∃ y : Int32, y = y5 + 1 := ⟨_, rfl⟩
            have hz84 : z84.toInt = y5.toInt + 1 := i_add ez84 rfl (by decide) (by (first | exact om_778bd2371a89 klp7_0.1 f79 | omega))
            refine lv_iinc (v := z84) (lv' := [(1, .int z84), (2, .long w83), (0, .ref (ad 6))]) hx hb dX9_cutNumber_61 hl (k := 1) rfl (by rw [ez84]; rfl) (by decide) rfl (fun ls hl => ?_)
            refine lv_aload_n hx hb dX9_cutNumber_64 rfl (lv_at hl 2 rfl) ?_
            refine lv_dup hx hb dX9_cutNumber_65 rfl ?_
            refine va_get (D := D) (ci := 9) (v := .int (V6 6 6)) (fs := (xfTape ad V6 L Z)) (C := RX9) (T := TX9) (N := 12) hx hb hg inX9 hown hK hP 6 xgTape rfl 6 (by decide) (hg _ w259) (fun _ h9 => h9) rfl dX9_cutNumber_66 ?_
            refine lv_iconst (v := 1) hx hb dX9_cutNumber_69 (by decide) ?_
            refine lv_iadd hx hb dX9_cutNumber_70 ?_
            refine lv_topi (fun z85 ez85 => ?_)
            have hz85 : z85.toInt = ((V6 6 6)).toInt + 1 := i_add ez85 rfl (by decide) (by (first | exact om_41955fcb6566 r1.2 r2.1 klp7_0.1 xlp7_1 f31 | omega))
            refine va_put (D := D) (ci := 9) (v := .int z85) (ty := tyX9 6) (fs := (xfTape ad V6 L Z)) (C := RX9) (T := TX9) (N := 12) hx hb hg inX9 tyX9 tyX9_ok nmX9 hown hK hP hD hS 6 xgTape rfl 6 (by decide) (hg _ w259) (fun _ h9 => h9) rfl (tyX9_ok 6 (by decide)) rfl rfl (Nat.le_of_ble_eq_true rfl) dX9_cutNumber_71 (fun H locs hP hD hS => ?_)
            obtain ⟨V86, hV86⟩ : ∃ z, z = up2 V6 6 6 z85 := ⟨_, rfl⟩
            have ew87 : (xw ad kk V6 L Z).set 6 ((ad 6), .inr (9, (xfTape ad V6 L Z).set 6 (.int z85))) = xw ad kk V86 L Z := by rw [hV86]; exact xw_ss (by decide) rfl (xb_si (by decide))
            have hP : va_P D vwCl (xw ad kk V86 L Z) H := by rw [← ew87]; exact hP
            have hD : va_D A (xw ad kk V86 L Z) := by rw [← ew87]; exact hD
            have hMV86 : rgd bX V86 := hMV6.put hV86 (show 0 ≤ z85.toInt ∧ z85.toInt ≤ 4000 from by first | exact om_5bd73bff3568 r1.2 r2.1 klp7_0.1 xlp7_1 f31 hz85 | first | omega | ((try (have i_t36 := Imp.go t36 (by omega))); (try (have i_t35 := Imp.go t35 (by omega))); (try (have i_rp4 := Imp.go rp4 (by omega))); (try (have i_rp4 := Imp.go rp4 (by omega))); (try (have i_t35 := Imp.go t35 (by omega))); (try (have i_t36 := Imp.go t36 (by omega))); omega))
            have agV86 : agr [(6, 6)] [12, 14] V V86 := agV6.up hV86 rfl
            refine lv_goto (tgt := 4) hx hb dX9_cutNumber_74 (by decide) ?_
            have pq88 : (V86 6 5).toInt = ((V 6 5)).toInt := congrArg Int32.toInt ((up2_k hV86 (by decide)).trans (ajV6 6 5 rfl))
            have pq89 : (V86 6 6).toInt = z85.toInt := congrArg Int32.toInt (up2_s hV86)
            have kz90 := i_clamp (x := (V6 6 6)) rfl (by first | exact om_fb56619e55db r2.1 klp7_0.1 xlp7_1 | first | omega | ((try (have i_t36 := Imp.go t36 (by omega))); (try (have i_t35 := Imp.go t35 (by omega))); (try (have i_rp4 := Imp.go rp4 (by omega))); (try (have i_rp4 := Imp.go rp4 (by omega))); (try (have i_t35 := Imp.go t35 (by omega))); (try (have i_t36 := Imp.go t36 (by omega))); omega))
            have ek92 : Int32.toNatClampNeg (V6 6 6) = gs + y5.toInt.toNat := by first | omega | ((try (have i_t36 := Imp.go t36 (by omega))); (try (have i_t35 := Imp.go t35 (by omega))); (try (have i_rp4 := Imp.go rp4 (by omega))); (try (have i_rp4 := Imp.go rp4 (by omega))); (try (have i_t35 := Imp.go t35 (by omega))); (try (have i_t36 := Imp.go t36 (by omega))); omega)
            have er91 : (V 10 (Int32.toNatClampNeg (V6 6 6))) = V 10 (gs + y5.toInt.toNat) := by rw [ek92]
            have hp93 : isDg (V 10 (Int32.toNatClampNeg (V6 6 6))) := Imp.go t35 (by omega)
            have kz94 := i_clamp (x := (V6 6 6)) rfl (by first | exact om_eafa9039069c r9.1 | first | omega | ((try (have i_t36 := Imp.go t36 (by omega))); (try (have i_t35 := Imp.go t35 (by omega))); (try (have i_rp4 := Imp.go rp4 (by omega))); (try (have i_rp4 := Imp.go rp4 (by omega))); (try (have i_t35 := Imp.go t35 (by omega))); (try (have i_t36 := Imp.go t36 (by omega))); omega))
            have ek96 : Int32.toNatClampNeg (V6 6 6) = gs + y5.toInt.toNat := by first | exact om_c9d69e9747b1 ek92 | first | omega | ((try (have i_t36 := Imp.go t36 (by omega))); (try (have i_t35 := Imp.go t35 (by omega))); (try (have i_rp4 := Imp.go rp4 (by omega))); (try (have i_rp4 := Imp.go rp4 (by omega))); (try (have i_t35 := Imp.go t35 (by omega))); (try (have i_t36 := Imp.go t36 (by omega))); omega)
            have er95 : (V 10 (Int32.toNatClampNeg (V6 6 6))) = V 10 (gs + y5.toInt.toNat) := by rw [ek96]
            have ez97 : z84.toInt.toNat = y5.toInt.toNat + 1 := by first | omega | ((try (have i_t36 := Imp.go t36 (by omega))); (try (have i_t35 := Imp.go t35 (by omega))); (try (have i_rp4 := Imp.go rp4 (by omega))); (try (have i_rp4 := Imp.go rp4 (by omega))); (try (have i_t35 := Imp.go t35 (by omega))); (try (have i_t36 := Imp.go t36 (by omega))); omega)
            exact ihlp7 w83 z84 V86 H locs ls (by first | exact om_9bdb3e8c8f6a rp3 xlp7_1 f79 hz84 kz90 ek92 | first | omega | ((try (have i_t36 := Imp.go t36 (by omega))); (try (have i_t35 := Imp.go t35 (by omega))); (try (have i_rp4 := Imp.go rp4 (by omega))); (try (have i_rp4 := Imp.go rp4 (by omega))); (try (have i_t35 := Imp.go t35 (by omega))); (try (have i_t36 := Imp.go t36 (by omega))); omega)) (show (V86 6 6).toInt ≤ (V86 6 5).toInt from by first | exact om_1257dc0753d6 f31 hz85 pq88 pq89 | first | omega | ((try (have i_t36 := Imp.go t36 (by omega))); (try (have i_t35 := Imp.go t35 (by omega))); (try (have i_rp4 := Imp.go rp4 (by omega))); (try (have i_rp4 := Imp.go rp4 (by omega))); (try (have i_t35 := Imp.go t35 (by omega))); (try (have i_t36 := Imp.go t36 (by omega))); omega)) (show (V 6 6).toInt + z84.toInt = (V86 6 6).toInt from by first | exact om_662a1892167c xlp7_1 hz84 hz85 pq89 | first | omega | ((try (have i_t36 := Imp.go t36 (by omega))); (try (have i_t35 := Imp.go t35 (by omega))); (try (have i_rp4 := Imp.go rp4 (by omega))); (try (have i_rp4 := Imp.go rp4 (by omega))); (try (have i_t35 := Imp.go t35 (by omega))); (try (have i_t36 := Imp.go t36 (by omega))); omega)) (fun k h => by by_cases c : (k : Int) < y5.toInt; exact xlp7_2 k c; have ek : k = y5.toInt.toNat := (by first | omega | ((try (have i_t36 := Imp.go t36 (by omega))); (try (have i_t35 := Imp.go t35 (by omega))); (try (have i_rp4 := Imp.go rp4 (by omega))); (try (have i_rp4 := Imp.go rp4 (by omega))); (try (have i_t35 := Imp.go t35 (by omega))); (try (have i_t36 := Imp.go t36 (by omega))); omega)); rw [ek, ← er91]; exact hp93) (fun h9 => by rw [ez97, nv_s, ← xlp7_3 (by first | omega | ((try (have i_t36 := Imp.go t36 (by omega))); (try (have i_t35 := Imp.go t35 (by omega))); (try (have i_rp4 := Imp.go rp4 (by omega))); (try (have i_rp4 := Imp.go rp4 (by omega))); (try (have i_t35 := Imp.go t35 (by omega))); (try (have i_t36 := Imp.go t36 (by omega))); omega)), ← er95]; exact ew83.trans (by rw [ew82, ew80, ew81])) (by first | exact om_91b464413286 hn pq8 hz85 pq88 pq89 | first | omega | ((try (have i_t36 := Imp.go t36 (by omega))); (try (have i_t35 := Imp.go t35 (by omega))); (try (have i_rp4 := Imp.go rp4 (by omega))); (try (have i_rp4 := Imp.go rp4 (by omega))); (try (have i_t35 := Imp.go t35 (by omega))); (try (have i_t36 := Imp.go t36 (by omega))); omega)) (agr.up (agr.tr agr.rf ajV6 (by decide) (by decide)) hV86 rfl) hMV86 hP hD hS (lv_sub hl [1, 0, 2] rfl)
  have r98 : Int32.toInt 0 = 0 := by decide
  exact lp7 (((V 6 5).toInt - (V 6 6).toInt + 1 : Int).toNat) 0 0 V H locs ls (by decide) (show (V 6 6).toInt ≤ (V 6 5).toInt from by first | exact om_122d4d21d372 rp1 | first | omega | ((try (have i_rp4 := Imp.go rp4 (by omega))); omega)) (show (V 6 6).toInt + (Int32.toInt 0) = (V 6 6).toInt from by first | exact om_85baa6bcbf4d r98 | first | omega | ((try (have i_rp4 := Imp.go rp4 (by omega))); omega)) (fun k h => absurd h (by have e0 : Int32.toInt 0 = 0 := (by decide); omega)) (fun _ => rfl) (by first | omega | ((try (have i_rp4 := Imp.go rp4 (by omega))); omega)) agr.rf hMV hP hD hS (lv_sub hl [0, 1, 2] rfl)
abbrev r_x_kindOf2 : Room := { frames := 0, cells := 0, slots := 0, locals := 0 }
abbrev q_x_kindOf2 (D : va_G) (ks : KS) (ad : Nat → Nat) (kk : Nat → ClassId) (V : Vf) (L : Lf) (Z : XZ) (p0 : Int64) (A : Nat → Prop) : Array Value → State → Outcome → State → Prop := va_Qi (fun (r : Int32) (_ : Unit) => (KW L p0 r.toInt)) (fun _ t => gq D A (xw ad kk V L Z) (xty kk Z) t) A
set_option maxHeartbeats 4000000 in
set_option maxRecDepth 100000 in
theorem x_kindOf2 (l : Launch) (D : va_G) (ks : KS) (sz : Nat) (ad : Nat → Nat) (kk : Nat → ClassId) (V : Vf) (L : Lf) (Z : XZ) (p0 : Int64) (hMV : rgd bX V)  : Met l yX9_kindOf (Cond.code yX9_kindOf cX9_kindOf 4 (some .int) :: GW) r_x_kindOf2 (va_Pc [.ref (ad 6), .long p0] (gp D ks (xw ad kk V L Z) (xty kk Z) sz)) (q_x_kindOf2 D ks ad kk V L Z p0 (va_A (xw ad kk V L Z) sz)) 0 0 (va_A (xw ad kk V L Z) sz) := by
  refine g_met (q_x_kindOf2 D ks ad kk V L Z p0) (by decide) (Nat.le_of_ble_eq_true rfl) ?_
  intro p e s m below meth c A ls H locs hx hb hr hml hown hg hlocks hin hnw hgk hP hK hD hS hA hl
  have hown : s.vm.findClass RX9 = some m.cls := hown
  have hl : lv_has ls 4 [(0, .ref (ad 6)), (1, .long p0)] := hl
  have hP : va_P D vwCl (xw ad kk V L Z) H := hP
  have hD : va_D A (xw ad kk V L Z) := hD
  have hK : va_K D vwCl (xty kk Z) s := hK
  refine lv_iconst (v := 0) hx hb dX9_kindOf_0 (by decide) ?_
  refine lv_istore_n (lv' := [(3, .int 0), (0, .ref (ad 6)), (1, .long p0)]) hx hb dX9_kindOf_1 rfl hl (by decide) rfl (fun ls hl => ?_)
  have lp2 : ∀ (fulp2 : Nat) (y1 : Int32) (H : Heap) (locs : List Loc) (ls : Array Slot), 0 ≤ y1.toInt ∧ y1.toInt ≤ 28 → (∀ k : Nat, (k : Int) < y1.toInt → L 11 k ≠ p0) → 28 - y1.toInt < (fulp2 : Int) → va_P D vwCl (xw ad kk V L Z) H → va_D A (xw ad kk V L Z) → va_S A s.heap H locs → lv_has ls 4 [(3, .int y1), (0, .ref (ad 6)), (1, .long p0)] → W p l e r_x_kindOf2 s m ([.ref (ad 6), .long p0] : List Value).toArray below meth c H locs 0 0 (MQ below (q_x_kindOf2 D ks ad kk V L Z p0 A) ([.ref (ad 6), .long p0] : List Value).toArray s 0 0 A) (F0 m 2 ls []) := by
    intro fulp2
    induction fulp2 with
    | zero =>
      intro y1 H locs ls klp2_0 xlp2_0 hn  hP hD hS hl
      exfalso; omega
    | succ fulp2 ihlp2 =>
      intro y1 H locs ls klp2_0 xlp2_0 hn  hP hD hS hl
      refine lv_iload_n hx hb dX9_kindOf_2 rfl (lv_at hl 0 rfl) ?_
      refine lv_bipush (v := 28) hx hb dX9_kindOf_3 (by decide) ?_
      refine lv_icmp_ge (tgt := 31) hx hb dX9_kindOf_5 (by decide) (fun c3 => ?_) (fun c3 => ?_)
      · skip
        have f4 : 28 ≤ y1.toInt := b_le (by decide) rfl c3
        refine lv_iconst (v := 3) hx hb dX9_kindOf_31 (by decide) ?_
        exact W.iret (v := 3) hx hb hr (fun t ht hW => ⟨⟨3, (), rfl, (Or.inl ⟨by decide, fun k hk => xlp2_0 k (by omega)⟩), by rw [ht]; exact hP, va_K.moved hW.alike hK, hD⟩, hS.F ht⟩) hS.2.2 dX9_kindOf_32
      · skip
        have f5 : y1.toInt < 28 := b_nle (by decide) rfl c3
        refine lv_aload_n hx hb dX9_kindOf_8 rfl (lv_at hl 1 rfl) ?_
        refine va_get (D := D) (ci := 9) (v := .ref (ad 8)) (fs := (xfTape ad V L Z)) (C := RX9) (T := TX9) (N := 12) hx hb hg inX9 hown hK hP 6 xgTape rfl 1 (by decide) (hg _ w253) (fun _ h9 => h9) rfl dX9_kindOf_9 ?_
        refine lv_iload_n hx hb dX9_kindOf_12 rfl (lv_at hl 0 rfl) ?_
        refine va_lald (D := D) (i := y1) hx hb hK hP 8 1 rfl rfl (i_in (a := y1.toInt) rfl (by omega)) dX9_kindOf_13 ?_
        refine lv_lload_n hx hb dX9_kindOf_14 rfl (lv_at hl 2 rfl) ?_
        refine W.lcmp hx hb dX9_kindOf_15 ?_
        refine lv_topi (fun z6 ez6 => ?_)
        have hz6 := lcmp_f ez6
        refine lv_if_ne (tgt := 25) hx hb dX9_kindOf_16 (by decide) (fun c7 => ?_) (fun c7 => ?_)
        · skip
          have f8 : z6.toInt ≠ 0 := b_neq rfl (by decide) c7
          obtain ⟨z9, ez9⟩ : ∃ y : Int32, y = y1 + 1 := ⟨_, rfl⟩
          have hz9 : z9.toInt = y1.toInt + 1 := i_add ez9 rfl (by decide) (by (first | exact om_5bde2511380b klp2_0.1 f5 | omega))
          refine lv_iinc (v := z9) (lv' := [(3, .int z9), (0, .ref (ad 6)), (1, .long p0)]) hx hb dX9_kindOf_25 hl (k := 0) rfl (by rw [ez9]; rfl) (by decide) rfl (fun ls hl => ?_)
          refine lv_goto (tgt := 2) hx hb dX9_kindOf_28 (by decide) ?_
          have kz10 := i_clamp (x := y1) rfl (by (first | exact om_eafa9039069c klp2_0.1 | omega))
          exact ihlp2 z9 H locs ls (by (first | exact om_e53fff2320c6 klp2_0.1 f5 hz9 | omega)) (fun k h => by by_cases c : (k : Int) < y1.toInt; exact xlp2_0 k c; have ek : k = Int32.toNatClampNeg y1 := (by omega); rw [ek]; intro q; have q2 := congrArg Int64.toInt q; omega) (by (first | exact om_e591ec508e02 hn hz9 | omega)) hP hD hS (lv_sub hl [0, 1, 2] rfl)
        · skip
          have f11 : z6.toInt = 0 := b_eq rfl (by decide) c7
          refine lv_sipush (v := 128) hx hb dX9_kindOf_19 (by decide) ?_
          refine lv_iload_n hx hb dX9_kindOf_22 rfl (lv_at hl 0 rfl) ?_
          refine lv_iadd hx hb dX9_kindOf_23 ?_
          refine lv_topi (fun z12 ez12 => ?_)
          have hz12 : z12.toInt = 128 + y1.toInt := i_add ez12 (by decide) rfl (by (first | exact om_e545d8213972 klp2_0.1 f5 | omega))
          have kz13 := i_clamp (x := y1) rfl (by (first | exact om_eafa9039069c klp2_0.1 | omega))
          exact W.iret (v := z12) hx hb hr (fun t ht hW => ⟨⟨z12, (), rfl, (Or.inr ⟨Int32.toNatClampNeg y1, by omega, by omega, Int64.toInt_inj.mp (by omega)⟩), by rw [ht]; exact hP, va_K.moved hW.alike hK, hD⟩, hS.F ht⟩) hS.2.2 dX9_kindOf_24
  have r14 : Int32.toInt 0 = 0 := by decide
  exact lp2 ((28 - (Int32.toInt 0) + 1 : Int).toNat) 0 H locs ls (by decide) (fun k h => absurd h (by have e0 : Int32.toInt 0 = 0 := (by decide); omega)) (by omega) hP hD hS (lv_sub hl [0, 1, 2] rfl)
abbrev r_x_codeOf2 : Room := { frames := 1, cells := 0, slots := 0, locals := 20 }
abbrev q_x_codeOf2 (D : va_G) (p0 : Int32) (A : Nat → Prop) : Array Value → State → Outcome → State → Prop := va_Qi (fun (r : Int32) (_ : Unit) => (r = (if 48 ≤ p0.toInt ∧ p0.toInt ≤ 57 then p0 - 48 + 27 else p0 - 97 + 1))) (fun _ t => gq D A [] [] t) A
set_option maxHeartbeats 4000000 in
set_option maxRecDepth 100000 in
theorem x_codeOf2 (l : Launch) (D : va_G) (ks : KS) (sz : Nat) (p0 : Int32)  : Met l yX9_codeOf (Cond.code yX9_codeOf cX9_codeOf 1 (some .int) :: GW) r_x_codeOf2 (va_Pc [.int p0] (gp D ks ([]) ([]) sz)) (q_x_codeOf2 D p0 (va_A ([]) sz)) 0 0 (va_A ([]) sz) := by
  refine g_met (q_x_codeOf2 D p0) (by decide) (Nat.le_of_ble_eq_true rfl) ?_
  intro p e s m below meth c A ls H locs hx hb hr hml hown hg hlocks hin hnw hgk hP hK hD hS hA hl
  have hown : s.vm.findClass RX9 = some m.cls := hown
  have hl : lv_has ls 1 [(0, .int p0)] := hl
  refine lv_iload_n hx hb dX9_codeOf_0 rfl (lv_at hl 0 rfl) ?_
  refine gE_int (g_runS (As := [.int p0]) (rest := []) (wc := []) (tc := []) hx hb hml hown hg gw_self hP hD hK hS hA hnw hgk [] [] (by decide) rfl rfl (x_isDigit2 l D ks H.size p0 ) w249 w250 w157 w251 hdS_yX9_isDigit ⟨Nat.le_of_ble_eq_true rfl, Nat.le_of_ble_eq_true rfl⟩ rfl hl.1 rfl (Nat.le_of_ble_eq_true rfl) dX9_codeOf_1 ⟨Nat.le_of_ble_eq_true rfl, Nat.le_of_ble_eq_true rfl⟩) hP hD hK hS hA (fun z1 u2 H locs w3 hP hD hK hS => ?_)
  obtain ⟨rgz1, t4, t5⟩ := w3
  have rgz1 : 0 ≤ z1.toInt ∧ z1.toInt ≤ 1 := rgz1
  have t4 : Imp (z1.toInt = 1) (48 ≤ p0.toInt ∧ p0.toInt ≤ 57) := t4
  have t5 : Imp (z1.toInt = 0) (p0.toInt < 48 ∨ 57 < p0.toInt) := t5
  refine lv_if_eq (tgt := 17) hx hb dX9_codeOf_4 (by decide) (fun c6 => ?_) (fun c6 => ?_)
  · skip
    have f7 : z1.toInt = 0 := b_eq rfl (by decide) c6
    refine lv_iload_n hx hb dX9_codeOf_17 rfl (lv_at hl 0 rfl) ?_
    refine lv_bipush (v := 97) hx hb dX9_codeOf_18 (by decide) ?_
    refine lv_isub hx hb dX9_codeOf_20 ?_
    have r8 := i_full p0
    refine lv_topi (fun z9 ez9 => ?_)
    have hz9 : Imp (-2147483648 ≤ p0.toInt - 97 ∧ p0.toInt - 97 ≤ 2147483647) (z9.toInt = p0.toInt - 97) := Imp.mk (fun hp => i_sub ez9 rfl (by decide) hp)
    refine lv_iconst (v := 1) hx hb dX9_codeOf_21 (by decide) ?_
    refine lv_iadd hx hb dX9_codeOf_22 ?_
    have r10 := i_full z9
    refine lv_topi (fun z11 ez11 => ?_)
    have hz11 : Imp (-2147483648 ≤ z9.toInt + 1 ∧ z9.toInt + 1 ≤ 2147483647) (z11.toInt = z9.toInt + 1) := Imp.mk (fun hp => i_add ez11 rfl (by decide) hp)
    exact W.iret (v := z11) hx hb hr (fun t ht hW => ⟨⟨z11, (), rfl, (by rw [if_neg (by have q := Imp.go t5 (by omega); omega), ez11, ez9]), by rw [ht]; exact hP, va_K.moved hW.alike hK, hD⟩, hS.F ht⟩) hS.2.2 dX9_codeOf_23
  · skip
    have f12 : z1.toInt ≠ 0 := b_neq rfl (by decide) c6
    refine lv_iload_n hx hb dX9_codeOf_7 rfl (lv_at hl 0 rfl) ?_
    refine lv_bipush (v := 48) hx hb dX9_codeOf_8 (by decide) ?_
    refine lv_isub hx hb dX9_codeOf_10 ?_
    have r13 := i_full p0
    refine lv_topi (fun z14 ez14 => ?_)
    have hz14 : Imp (-2147483648 ≤ p0.toInt - 48 ∧ p0.toInt - 48 ≤ 2147483647) (z14.toInt = p0.toInt - 48) := Imp.mk (fun hp => i_sub ez14 rfl (by decide) hp)
    refine lv_bipush (v := 27) hx hb dX9_codeOf_11 (by decide) ?_
    refine lv_iadd hx hb dX9_codeOf_13 ?_
    have r15 := i_full z14
    refine lv_topi (fun z16 ez16 => ?_)
    have hz16 : Imp (-2147483648 ≤ z14.toInt + 27 ∧ z14.toInt + 27 ≤ 2147483647) (z16.toInt = z14.toInt + 27) := Imp.mk (fun hp => i_add ez16 rfl (by decide) hp)
    refine lv_goto (tgt := 23) hx hb dX9_codeOf_14 (by decide) ?_
    exact W.iret (v := z16) hx hb hr (fun t ht hW => ⟨⟨z16, (), rfl, (by rw [if_pos (Imp.go t4 (by omega)), ez16, ez14]), by rw [ht]; exact hP, va_K.moved hW.alike hK, hD⟩, hS.F ht⟩) hS.2.2 dX9_codeOf_23
abbrev r_x_cutWord2 : Room := { frames := 2, cells := 0, slots := 0, locals := 40 }
abbrev q_x_cutWord2 (D : va_G) (ks : KS) (ad : Nat → Nat) (kk : Nat → ClassId) (V : Vf) (L : Lf) (Z : XZ) (gs : Nat) (A : Nat → Prop) : Array Value → State → Outcome → State → Prop := va_Qv (fun (u : Vf × Lf) => rgd bX u.1 ∧ agr [(6, 6)] [12, 14] V u.1 ∧ agL [14] L u.2 ∧ (∃ e : Nat, RUN isLD (V 10) (V 6 5).toInt.toNat gs e ∧ (u.1 6 6).toInt = (e : Int) ∧ (12 < e - gs → (u.1 12 (Int32.toNatClampNeg (V 6 7))).toInt = 1) ∧ (e - gs ≤ 12 → KW L (wv (V 10) gs (e - gs)) (u.1 12 (Int32.toNatClampNeg (V 6 7))).toInt ∧ u.2 14 (Int32.toNatClampNeg (V 6 7)) = wv (V 10) gs (e - gs))) ∧ (∀ k : Nat, k ≠ (Int32.toNatClampNeg (V 6 7)) → u.1 12 k = V 12 k ∧ u.2 14 k = L 14 k)) (fun u t => gq D A (xw ad kk u.1 u.2 Z) (xty kk Z) t) A
set_option maxHeartbeats 4000000 in
set_option maxRecDepth 100000 in
theorem x_cutWord2 (l : Launch) (D : va_G) (ks : KS) (sz : Nat) (ad : Nat → Nat) (kk : Nat → ClassId) (V : Vf) (L : Lf) (Z : XZ) (gs : Nat) (hMV : rgd bX V) (rp1 : (V 6 6).toInt < (V 6 5).toInt) (rp2 : (V 6 7).toInt ≤ 3999) (rp3 : (V 6 6).toInt = (gs : Int)) (rp4 : isLt (V 10 gs))  : Met l yX9_cutWord (Cond.code yX9_cutWord cX9_cutWord 4 none :: GW) r_x_cutWord2 (va_Pc [.ref (ad 6)] (gp D ks (xw ad kk V L Z) (xty kk Z) sz)) (q_x_cutWord2 D ks ad kk V L Z  gs (va_A (xw ad kk V L Z) sz)) 0 0 (va_A (xw ad kk V L Z) sz) := by
  refine g_met (q_x_cutWord2 D ks ad kk V L Z  gs) (by decide) (Nat.le_of_ble_eq_true rfl) ?_
  intro p e s m below meth c A ls H locs hx hb hr hml hown hg hlocks hin hnw hgk hP hK hD hS hA hl
  have hown : s.vm.findClass RX9 = some m.cls := hown
  have hl : lv_has ls 4 [(0, .ref (ad 6))] := hl
  have hP : va_P D vwCl (xw ad kk V L Z) H := hP
  have hD : va_D A (xw ad kk V L Z) := hD
  have hK : va_K D vwCl (xty kk Z) s := hK
  have agV : agr [(6, 6)] [12, 14] V V := agr.rf
  have alL : agL [14] L L := agL.rf
  have r1 : 0 ≤ ((V 6 5)).toInt ∧ ((V 6 5)).toInt ≤ 4000 := hMV 6 5
  have r2 : 0 ≤ ((V 6 6)).toInt ∧ ((V 6 6)).toInt ≤ 4000 := hMV 6 6
  have r3 : 0 ≤ ((V 6 7)).toInt ∧ ((V 6 7)).toInt ≤ 4000 := hMV 6 7
  refine lv_iconst (v := 0) hx hb dX9_cutWord_0 (by decide) ?_
  refine lv_istore_n (lv' := [(1, .int 0), (0, .ref (ad 6))]) hx hb dX9_cutWord_1 rfl hl (by decide) rfl (fun ls hl => ?_)
  refine lv_lconst (v := 0) hx hb dX9_cutWord_2 (by decide) ?_
  refine lv_lstore_n (lv' := [(2, .long 0), (1, .int 0), (0, .ref (ad 6))]) hx hb dX9_cutWord_3 rfl hl (by decide) rfl (fun ls hl => ?_)
  have lp7 : ∀ (fulp7 : Nat) (y4 : Int64) (y5 : Int32) (V6 : Vf) (H : Heap) (locs : List Loc) (ls : Array Slot), 0 ≤ y5.toInt ∧ y5.toInt ≤ 4000 → (V6 6 6).toInt ≤ (V6 6 5).toInt → (V 6 6).toInt + y5.toInt = (V6 6 6).toInt → (∀ k : Nat, (k : Int) < y5.toInt → isLD (V 10 (gs + k))) → (y5.toInt ≤ 12 → y4 = wv (V 10) gs (y5.toInt).toNat) → (V6 6 5).toInt - (V6 6 6).toInt < (fulp7 : Int) → agr [(6, 6)] [] V V6 → rgd bX V6 → va_P D vwCl (xw ad kk V6 L Z) H → va_D A (xw ad kk V6 L Z) → va_S A s.heap H locs → lv_has ls 4 [(2, .long y4), (1, .int y5), (0, .ref (ad 6))] → W p l e r_x_cutWord2 s m ([.ref (ad 6)] : List Value).toArray below meth c H locs 0 0 (MQ below (q_x_cutWord2 D ks ad kk V L Z  gs A) ([.ref (ad 6)] : List Value).toArray s 0 0 A) (F0 m 4 ls []) := by
    intro fulp7
    induction fulp7 with
    | zero =>
      intro y4 y5 V6 H locs ls klp7_0 xlp7_0 xlp7_1 xlp7_2 xlp7_3 hn ajV6 hMV6 hP hD hS hl
      exfalso; omega
    | succ fulp7 ihlp7 =>
      intro y4 y5 V6 H locs ls klp7_0 xlp7_0 xlp7_1 xlp7_2 xlp7_3 hn ajV6 hMV6 hP hD hS hl
      have agV6 : agr [(6, 6)] [12, 14] V V6 := agV.tr ajV6 (by decide) (by decide)
      have pq8 : (V6 6 5).toInt = ((V 6 5)).toInt := congrArg Int32.toInt (ajV6 6 5 rfl)
      have r9 : 0 ≤ ((V6 6 6)).toInt ∧ ((V6 6 6)).toInt ≤ 4000 := hMV6 6 6
      refine lv_aload_n hx hb dX9_cutWord_4 rfl (lv_at hl 2 rfl) ?_
      refine va_get (D := D) (ci := 9) (v := .int (V6 6 6)) (fs := (xfTape ad V6 L Z)) (C := RX9) (T := TX9) (N := 12) hx hb hg inX9 hown hK hP 6 xgTape rfl 6 (by decide) (hg _ w259) (fun _ h9 => h9) rfl dX9_cutWord_5 ?_
      refine lv_aload_n hx hb dX9_cutWord_8 rfl (lv_at hl 2 rfl) ?_
      refine va_get (D := D) (ci := 9) (v := .int (V6 6 5)) (fs := (xfTape ad V6 L Z)) (C := RX9) (T := TX9) (N := 12) hx hb hg inX9 hown hK hP 6 xgTape rfl 5 (by decide) (hg _ w258) (fun _ h9 => h9) rfl dX9_cutWord_9 ?_
      refine g_top (v := (V 6 5)) (ajV6 6 5 rfl) ?_
      refine lv_icmp_ge (tgt := 91) hx hb dX9_cutWord_12 (by decide) (fun c10 => ?_) (fun c10 => ?_)
      · skip
        have f11 : ((V 6 5)).toInt ≤ ((V6 6 6)).toInt := b_le rfl rfl c10
        refine lv_aload_n hx hb dX9_cutWord_91 rfl (lv_at hl 2 rfl) ?_
        refine va_get (D := D) (ci := 9) (v := .ref (ad 9)) (fs := (xfTape ad V6 L Z)) (C := RX9) (T := TX9) (N := 12) hx hb hg inX9 hown hK hP 6 xgTape rfl 2 (by decide) (hg _ w254) (fun _ h9 => h9) rfl dX9_cutWord_92 ?_
        refine lv_aload_n hx hb dX9_cutWord_95 rfl (lv_at hl 2 rfl) ?_
        refine va_get (D := D) (ci := 9) (v := .int (V6 6 7)) (fs := (xfTape ad V6 L Z)) (C := RX9) (T := TX9) (N := 12) hx hb hg inX9 hown hK hP 6 xgTape rfl 7 (by decide) (hg _ w260) (fun _ h9 => h9) rfl dX9_cutWord_96 ?_
        refine g_top (v := (V 6 7)) (ajV6 6 7 rfl) ?_
        refine lv_iload_n hx hb dX9_cutWord_99 rfl (lv_at hl 1 rfl) ?_
        refine lv_bipush (v := 12) hx hb dX9_cutWord_100 (by decide) ?_
        refine lv_icmp_le (tgt := 109) hx hb dX9_cutWord_102 (by decide) (fun c12 => ?_) (fun c12 => ?_)
        · skip
          have f13 : y5.toInt ≤ 12 := b_le rfl (by decide) c12
          refine lv_aload_n hx hb dX9_cutWord_109 rfl (lv_at hl 2 rfl) ?_
          refine lv_lload_n hx hb dX9_cutWord_110 rfl (lv_at hl 0 rfl) ?_
          refine gA_int (gA_runV (As := [.long y4]) (rest := [.int (V 6 7), .ref (ad 9)]) (ci := 9) (q0 := 6) hx hb hml hown hg hP hD hK hS hA hnw hgk (x_kindOf2 l D ks H.size ad kk V6 L Z y4 hMV6 ) w787 w789 w3 w157 w790 rfl xgTape hdV_yX9_kindOf ⟨Nat.le_of_ble_eq_true rfl, Nat.le_of_ble_eq_true rfl⟩ rfl hl.1 rfl (Nat.le_of_ble_eq_true rfl) dX9_cutWord_111 ⟨Nat.le_of_ble_eq_true rfl, Nat.le_of_ble_eq_true rfl⟩) hP hD hK hS hA (fun z14 u15 H locs w16 hP hD hK hS => ?_)
          have t17 := w16
          have t17 : KW L y4 z14.toInt := t17
          refine va_iast (D := D) (i := (V 6 7)) (x := z14) hx hb hK hP hD hS 9 2 rfl rfl (i_in (a := ((V 6 7)).toInt) rfl (by first | omega | ((try (have i_rp4 := Imp.go rp4 (by omega))); omega))) dX9_cutWord_114 (fun H locs hP hD hS => ?_)
          obtain ⟨V18, hV18⟩ : ∃ z, z = up2 V6 12 (Int32.toNatClampNeg (V 6 7)) z14 := ⟨_, rfl⟩
          have ew19 : (xw ad kk V6 L Z).set 9 ((ad 9), .inl ((kk 9), 4001, .inl (upd (V6 12) (Int32.toNatClampNeg (V 6 7)) z14))) = xw ad kk V18 L Z := by rw [hV18]; exact xw_ss (by decide) rfl (xb_si (by decide))
          have hP : va_P D vwCl (xw ad kk V18 L Z) H := by rw [← ew19]; exact hP
          have hD : va_D A (xw ad kk V18 L Z) := by rw [← ew19]; exact hD
          have hMV18 : rgd bX V18 := hMV6.put hV18 (i_full _)
          have agV18 : agr [(6, 6)] [12, 14] V V18 := agV6.up hV18 rfl
          refine lv_aload_n hx hb dX9_cutWord_115 rfl (lv_at hl 2 rfl) ?_
          refine va_get (D := D) (ci := 9) (v := .ref (ad 11)) (fs := (xfTape ad V18 L Z)) (C := RX9) (T := TX9) (N := 12) hx hb hg inX9 hown hK hP 6 xgTape rfl 4 (by decide) (hg _ w256) (fun _ h9 => h9) rfl dX9_cutWord_116 ?_
          refine lv_aload_n hx hb dX9_cutWord_119 rfl (lv_at hl 2 rfl) ?_
          refine va_get (D := D) (ci := 9) (v := .int (V18 6 7)) (fs := (xfTape ad V18 L Z)) (C := RX9) (T := TX9) (N := 12) hx hb hg inX9 hown hK hP 6 xgTape rfl 7 (by decide) (hg _ w260) (fun _ h9 => h9) rfl dX9_cutWord_120 ?_
          refine g_top (v := (V 6 7)) ((up2_o hV18 (by decide)).trans (ajV6 6 7 rfl)) ?_
          refine lv_lload_n hx hb dX9_cutWord_123 rfl (lv_at hl 0 rfl) ?_
          refine va_last (D := D) (i := (V 6 7)) (x := y4) hx hb hK hP hD hS 11 4 rfl rfl (i_in (a := ((V 6 7)).toInt) rfl (by first | omega | ((try (have i_rp4 := Imp.go rp4 (by omega))); omega))) dX9_cutWord_124 (fun H locs hP hD hS => ?_)
          obtain ⟨L20, hL20⟩ : ∃ z, z = upL L 14 (Int32.toNatClampNeg (V 6 7)) y4 := ⟨_, rfl⟩
          have ew21 : (xw ad kk V18 L Z).set 11 ((ad 11), .inl ((kk 11), 4001, .inr (.inl (vp_updL (L 14) (Int32.toNatClampNeg (V 6 7)) y4)))) = xw ad kk V18 L20 Z := by rw [hL20]; exact xw_ss (by decide) rfl (fun j => xe_L (fun a => absurd a.1 (by decide)))
          have hP : va_P D vwCl (xw ad kk V18 L20 Z) H := by rw [← ew21]; exact hP
          have hD : va_D A (xw ad kk V18 L20 Z) := by rw [← ew21]; exact hD
          have alL20 : agL [14] L L20 := agL.up alL hL20 rfl
          have hl0 : 0 < y5.toInt.toNat := by first | omega | ((try (have i_rp4 := Imp.go rp4 (by omega))); omega)
          have hrun : RUN isLD (V 10) (V 6 5).toInt.toNat gs (gs + y5.toInt.toNat) := ⟨by omega, by first | omega | ((try (have i_rp4 := Imp.go rp4 (by omega))); omega), fun k a b => by have z := xlp7_2 (k - gs) (by omega); rw [show gs + (k - gs) = k from by omega] at z; exact z, Or.inl (by first | omega | ((try (have i_rp4 := Imp.go rp4 (by omega))); omega))⟩
          have hsub : gs + y5.toInt.toNat - gs = y5.toInt.toNat := Nat.add_sub_cancel_left _ _
          have pq22 : (V18 6 6).toInt = ((V6 6 6)).toInt := congrArg Int32.toInt (up2_o hV18 (by decide))
          have ek23 : V18 12 (Int32.toNatClampNeg (V 6 7)) = z14 := (up2_s hV18)
          have hL14 : L20 14 (Int32.toNatClampNeg (V 6 7)) = y4 := by rw [hL20]; unfold upL vp_updL; rw [if_pos rfl, if_pos rfl]
          have rp24 : ∃ e : Nat, RUN isLD (V 10) (V 6 5).toInt.toNat gs e ∧ (V18 6 6).toInt = (e : Int) ∧ (12 < e - gs → (V18 12 (Int32.toNatClampNeg (V 6 7))).toInt = 1) ∧ (e - gs ≤ 12 → KW L (wv (V 10) gs (e - gs)) (V18 12 (Int32.toNatClampNeg (V 6 7))).toInt ∧ L20 14 (Int32.toNatClampNeg (V 6 7)) = wv (V 10) gs (e - gs)) := ⟨_, hrun, by first | omega | ((try (have i_rp4 := Imp.go rp4 (by omega))); omega), fun h => by rw [hsub] at h; rw [ek23]; exfalso; omega, fun h => by rw [hsub] at h ⊢; exact ⟨(by rw [ek23]; rw [← xlp7_3 (by first | omega | ((try (have i_rp4 := Imp.go rp4 (by omega))); omega))]; exact t17), by rw [hL14]; exact xlp7_3 (by first | omega | ((try (have i_rp4 := Imp.go rp4 (by omega))); omega))⟩⟩
          have hF12 : V18 12 = upd (V 12) (Int32.toNatClampNeg (V 6 7)) z14 := by rw [up2_fn hV18, show V6 12 = V 12 from funext (fun q => ajV6 12 q rfl)]
          have rp25 : ∀ k : Nat, k ≠ (Int32.toNatClampNeg (V 6 7)) → V18 12 k = V 12 k ∧ L20 14 k = L 14 k := fun k hk => ⟨by rw [hF12]; exact if_neg hk, by rw [hL20]; unfold upL vp_updL; rw [if_pos rfl, if_neg hk]⟩
          exact W.vret hx hb hr (fun t ht hW => ⟨⟨(V18, L20), rfl, ⟨hMV18, agV18, alL20, rp24, rp25⟩, by rw [ht]; exact hP, va_K.moved hW.alike hK, hD⟩, hS.F ht⟩) hS.2.2 dX9_cutWord_125
        · skip
          have f26 : 12 < y5.toInt := b_nle rfl (by decide) c12
          refine lv_iconst (v := 1) hx hb dX9_cutWord_105 (by decide) ?_
          refine lv_goto (tgt := 114) hx hb dX9_cutWord_106 (by decide) ?_
          refine va_iast (D := D) (i := (V 6 7)) (x := 1) hx hb hK hP hD hS 9 2 rfl rfl (i_in (a := ((V 6 7)).toInt) rfl (by first | omega | ((try (have i_rp4 := Imp.go rp4 (by omega))); omega))) dX9_cutWord_114 (fun H locs hP hD hS => ?_)
          obtain ⟨V27, hV27⟩ : ∃ z, z = up2 V6 12 (Int32.toNatClampNeg (V 6 7)) 1 := ⟨_, rfl⟩
          have ew28 : (xw ad kk V6 L Z).set 9 ((ad 9), .inl ((kk 9), 4001, .inl (upd (V6 12) (Int32.toNatClampNeg (V 6 7)) 1))) = xw ad kk V27 L Z := by rw [hV27]; exact xw_ss (by decide) rfl (xb_si (by decide))
          have hP : va_P D vwCl (xw ad kk V27 L Z) H := by rw [← ew28]; exact hP
          have hD : va_D A (xw ad kk V27 L Z) := by rw [← ew28]; exact hD
          have hMV27 : rgd bX V27 := hMV6.put hV27 (i_full _)
          have agV27 : agr [(6, 6)] [12, 14] V V27 := agV6.up hV27 rfl
          refine lv_aload_n hx hb dX9_cutWord_115 rfl (lv_at hl 2 rfl) ?_
          refine va_get (D := D) (ci := 9) (v := .ref (ad 11)) (fs := (xfTape ad V27 L Z)) (C := RX9) (T := TX9) (N := 12) hx hb hg inX9 hown hK hP 6 xgTape rfl 4 (by decide) (hg _ w256) (fun _ h9 => h9) rfl dX9_cutWord_116 ?_
          refine lv_aload_n hx hb dX9_cutWord_119 rfl (lv_at hl 2 rfl) ?_
          refine va_get (D := D) (ci := 9) (v := .int (V27 6 7)) (fs := (xfTape ad V27 L Z)) (C := RX9) (T := TX9) (N := 12) hx hb hg inX9 hown hK hP 6 xgTape rfl 7 (by decide) (hg _ w260) (fun _ h9 => h9) rfl dX9_cutWord_120 ?_
          refine g_top (v := (V 6 7)) ((up2_o hV27 (by decide)).trans (ajV6 6 7 rfl)) ?_
          refine lv_lload_n hx hb dX9_cutWord_123 rfl (lv_at hl 0 rfl) ?_
          refine va_last (D := D) (i := (V 6 7)) (x := y4) hx hb hK hP hD hS 11 4 rfl rfl (i_in (a := ((V 6 7)).toInt) rfl (by first | omega | ((try (have i_rp4 := Imp.go rp4 (by omega))); omega))) dX9_cutWord_124 (fun H locs hP hD hS => ?_)
          obtain ⟨L29, hL29⟩ : ∃ z, z = upL L 14 (Int32.toNatClampNeg (V 6 7)) y4 := ⟨_, rfl⟩
          have ew30 : (xw ad kk V27 L Z).set 11 ((ad 11), .inl ((kk 11), 4001, .inr (.inl (vp_updL (L 14) (Int32.toNatClampNeg (V 6 7)) y4)))) = xw ad kk V27 L29 Z := by rw [hL29]; exact xw_ss (by decide) rfl (fun j => xe_L (fun a => absurd a.1 (by decide)))
          have hP : va_P D vwCl (xw ad kk V27 L29 Z) H := by rw [← ew30]; exact hP
          have hD : va_D A (xw ad kk V27 L29 Z) := by rw [← ew30]; exact hD
          have alL29 : agL [14] L L29 := agL.up alL hL29 rfl
          have hl0 : 0 < y5.toInt.toNat := by first | omega | ((try (have i_rp4 := Imp.go rp4 (by omega))); omega)
          have hrun : RUN isLD (V 10) (V 6 5).toInt.toNat gs (gs + y5.toInt.toNat) := ⟨by omega, by first | omega | ((try (have i_rp4 := Imp.go rp4 (by omega))); omega), fun k a b => by have z := xlp7_2 (k - gs) (by omega); rw [show gs + (k - gs) = k from by omega] at z; exact z, Or.inl (by first | omega | ((try (have i_rp4 := Imp.go rp4 (by omega))); omega))⟩
          have hsub : gs + y5.toInt.toNat - gs = y5.toInt.toNat := Nat.add_sub_cancel_left _ _
          have pq31 : (V27 6 6).toInt = ((V6 6 6)).toInt := congrArg Int32.toInt (up2_o hV27 (by decide))
          have ek32 : V27 12 (Int32.toNatClampNeg (V 6 7)) = 1 := (up2_s hV27)
          have hL14 : L29 14 (Int32.toNatClampNeg (V 6 7)) = y4 := by rw [hL29]; unfold upL vp_updL; rw [if_pos rfl, if_pos rfl]
          have rp33 : ∃ e : Nat, RUN isLD (V 10) (V 6 5).toInt.toNat gs e ∧ (V27 6 6).toInt = (e : Int) ∧ (12 < e - gs → (V27 12 (Int32.toNatClampNeg (V 6 7))).toInt = 1) ∧ (e - gs ≤ 12 → KW L (wv (V 10) gs (e - gs)) (V27 12 (Int32.toNatClampNeg (V 6 7))).toInt ∧ L29 14 (Int32.toNatClampNeg (V 6 7)) = wv (V 10) gs (e - gs)) := ⟨_, hrun, by first | omega | ((try (have i_rp4 := Imp.go rp4 (by omega))); omega), fun h => by rw [hsub] at h; rw [ek32]; decide, fun h => by rw [hsub] at h ⊢; exact ⟨(by rw [ek32]; exfalso; omega), by rw [hL14]; exact xlp7_3 (by first | omega | ((try (have i_rp4 := Imp.go rp4 (by omega))); omega))⟩⟩
          have hF12 : V27 12 = upd (V 12) (Int32.toNatClampNeg (V 6 7)) 1 := by rw [up2_fn hV27, show V6 12 = V 12 from funext (fun q => ajV6 12 q rfl)]
          have rp34 : ∀ k : Nat, k ≠ (Int32.toNatClampNeg (V 6 7)) → V27 12 k = V 12 k ∧ L29 14 k = L 14 k := fun k hk => ⟨by rw [hF12]; exact if_neg hk, by rw [hL29]; unfold upL vp_updL; rw [if_pos rfl, if_neg hk]⟩
          exact W.vret hx hb hr (fun t ht hW => ⟨⟨(V27, L29), rfl, ⟨hMV27, agV27, alL29, rp33, rp34⟩, by rw [ht]; exact hP, va_K.moved hW.alike hK, hD⟩, hS.F ht⟩) hS.2.2 dX9_cutWord_125
      · skip
        have f35 : ((V6 6 6)).toInt < ((V 6 5)).toInt := b_nle rfl rfl c10
        refine lv_aload_n hx hb dX9_cutWord_15 rfl (lv_at hl 2 rfl) ?_
        refine va_get (D := D) (ci := 9) (v := .ref (ad 7)) (fs := (xfTape ad V6 L Z)) (C := RX9) (T := TX9) (N := 12) hx hb hg inX9 hown hK hP 6 xgTape rfl 0 (by decide) (hg _ w252) (fun _ h9 => h9) rfl dX9_cutWord_16 ?_
        refine lv_aload_n hx hb dX9_cutWord_19 rfl (lv_at hl 2 rfl) ?_
        refine va_get (D := D) (ci := 9) (v := .int (V6 6 6)) (fs := (xfTape ad V6 L Z)) (C := RX9) (T := TX9) (N := 12) hx hb hg inX9 hown hK hP 6 xgTape rfl 6 (by decide) (hg _ w259) (fun _ h9 => h9) rfl dX9_cutWord_20 ?_
        refine va_bald (D := D) (i := (V6 6 6)) hx hb hK hP 7 0 rfl rfl (i_in (a := ((V6 6 6)).toInt) rfl (by first | omega | ((try (have i_rp4 := Imp.go rp4 (by omega))); omega))) dX9_cutWord_23 ?_
        refine g_top (v := (V 10 (Int32.toNatClampNeg (V6 6 6)))) (ajV6 10 (Int32.toNatClampNeg (V6 6 6)) rfl) ?_
        refine gE_int (g_runS (As := [.int (V 10 (Int32.toNatClampNeg (V6 6 6)))]) (rest := []) (wc := []) (tc := []) hx hb hml hown hg gw_self hP hD hK hS hA hnw hgk [] [] (by decide) rfl rfl (x_isLetter2 l D ks H.size (V 10 (Int32.toNatClampNeg (V6 6 6))) ) w780 w781 w157 w782 hdS_yX9_isLetter ⟨Nat.le_of_ble_eq_true rfl, Nat.le_of_ble_eq_true rfl⟩ rfl hl.1 rfl (Nat.le_of_ble_eq_true rfl) dX9_cutWord_24 ⟨Nat.le_of_ble_eq_true rfl, Nat.le_of_ble_eq_true rfl⟩) hP hD hK hS hA (fun z36 u37 H locs w38 hP hD hK hS => ?_)
        obtain ⟨rgz36, t39, t40⟩ := w38
        have rgz36 : 0 ≤ z36.toInt ∧ z36.toInt ≤ 1 := rgz36
        have t39 : Imp (z36.toInt = 1) (97 ≤ ((V 10 (Int32.toNatClampNeg (V6 6 6)))).toInt ∧ ((V 10 (Int32.toNatClampNeg (V6 6 6)))).toInt ≤ 122) := t39
        have t40 : Imp (z36.toInt = 0) (((V 10 (Int32.toNatClampNeg (V6 6 6)))).toInt < 97 ∨ 122 < ((V 10 (Int32.toNatClampNeg (V6 6 6)))).toInt) := t40
        refine lv_if_ne (tgt := 45) hx hb dX9_cutWord_27 (by decide) (fun c41 => ?_) (fun c41 => ?_)
        · skip
          have f42 : z36.toInt ≠ 0 := b_neq rfl (by decide) c41
          refine lv_iload_n hx hb dX9_cutWord_45 rfl (lv_at hl 1 rfl) ?_
          refine lv_bipush (v := 12) hx hb dX9_cutWord_46 (by decide) ?_
          refine lv_icmp_ge (tgt := 73) hx hb dX9_cutWord_48 (by decide) (fun c43 => ?_) (fun c43 => ?_)
          · skip
            have f44 : 12 ≤ y5.toInt := b_le (by decide) rfl c43
            refine lv_lconst (v := 0) hx hb dX9_cutWord_73 (by decide) ?_
            refine lv_lstore_n (lv' := [(2, .long 0), (1, .int y5), (0, .ref (ad 6))]) hx hb dX9_cutWord_74 rfl hl (by decide) rfl (fun ls hl => ?_)
            obtain ⟨z45, ez45⟩ : ∃ y : Int32, y = y5 + 1 := ⟨_, rfl⟩
            have hz45 : z45.toInt = y5.toInt + 1 := i_add ez45 rfl (by decide) (by (first | exact om_89fadfb637be r1.2 r2.1 xlp7_1 f35 f44 | omega))
            refine lv_iinc (v := z45) (lv' := [(1, .int z45), (2, .long 0), (0, .ref (ad 6))]) hx hb dX9_cutWord_75 hl (k := 1) rfl (by rw [ez45]; rfl) (by decide) rfl (fun ls hl => ?_)
            refine lv_aload_n hx hb dX9_cutWord_78 rfl (lv_at hl 2 rfl) ?_
            refine lv_dup hx hb dX9_cutWord_79 rfl ?_
            refine va_get (D := D) (ci := 9) (v := .int (V6 6 6)) (fs := (xfTape ad V6 L Z)) (C := RX9) (T := TX9) (N := 12) hx hb hg inX9 hown hK hP 6 xgTape rfl 6 (by decide) (hg _ w259) (fun _ h9 => h9) rfl dX9_cutWord_80 ?_
            refine lv_iconst (v := 1) hx hb dX9_cutWord_83 (by decide) ?_
            refine lv_iadd hx hb dX9_cutWord_84 ?_
            refine lv_topi (fun z46 ez46 => ?_)
            have hz46 : z46.toInt = ((V6 6 6)).toInt + 1 := i_add ez46 rfl (by decide) (by (first | exact om_5c2f98f06f05 r1.2 r2.1 xlp7_1 f35 f44 | omega))
            refine va_put (D := D) (ci := 9) (v := .int z46) (ty := tyX9 6) (fs := (xfTape ad V6 L Z)) (C := RX9) (T := TX9) (N := 12) hx hb hg inX9 tyX9 tyX9_ok nmX9 hown hK hP hD hS 6 xgTape rfl 6 (by decide) (hg _ w259) (fun _ h9 => h9) rfl (tyX9_ok 6 (by decide)) rfl rfl (Nat.le_of_ble_eq_true rfl) dX9_cutWord_85 (fun H locs hP hD hS => ?_)
            obtain ⟨V47, hV47⟩ : ∃ z, z = up2 V6 6 6 z46 := ⟨_, rfl⟩
            have ew48 : (xw ad kk V6 L Z).set 6 ((ad 6), .inr (9, (xfTape ad V6 L Z).set 6 (.int z46))) = xw ad kk V47 L Z := by rw [hV47]; exact xw_ss (by decide) rfl (xb_si (by decide))
            have hP : va_P D vwCl (xw ad kk V47 L Z) H := by rw [← ew48]; exact hP
            have hD : va_D A (xw ad kk V47 L Z) := by rw [← ew48]; exact hD
            have hMV47 : rgd bX V47 := hMV6.put hV47 (show 0 ≤ z46.toInt ∧ z46.toInt ≤ 4000 from by first | exact om_a97166e33c63 r1.2 r2.1 xlp7_1 f35 f44 hz46 | first | omega | ((try (have i_t40 := Imp.go t40 (by omega))); (try (have i_t39 := Imp.go t39 (by omega))); (try (have i_rp4 := Imp.go rp4 (by omega))); (try (have i_rp4 := Imp.go rp4 (by omega))); (try (have i_t39 := Imp.go t39 (by omega))); (try (have i_t40 := Imp.go t40 (by omega))); omega))
            have agV47 : agr [(6, 6)] [12, 14] V V47 := agV6.up hV47 rfl
            refine lv_goto (tgt := 4) hx hb dX9_cutWord_88 (by decide) ?_
            have pq49 : (V47 6 5).toInt = ((V 6 5)).toInt := congrArg Int32.toInt ((up2_k hV47 (by decide)).trans (ajV6 6 5 rfl))
            have pq50 : (V47 6 6).toInt = z46.toInt := congrArg Int32.toInt (up2_s hV47)
            have kz51 := i_clamp (x := (V6 6 6)) rfl (by first | exact om_d873b6e6eff2 r2.1 xlp7_1 f44 | first | omega | ((try (have i_t40 := Imp.go t40 (by omega))); (try (have i_t39 := Imp.go t39 (by omega))); (try (have i_rp4 := Imp.go rp4 (by omega))); (try (have i_rp4 := Imp.go rp4 (by omega))); (try (have i_t39 := Imp.go t39 (by omega))); (try (have i_t40 := Imp.go t40 (by omega))); omega))
            have ek53 : Int32.toNatClampNeg (V6 6 6) = gs + y5.toInt.toNat := by first | omega | ((try (have i_t40 := Imp.go t40 (by omega))); (try (have i_t39 := Imp.go t39 (by omega))); (try (have i_rp4 := Imp.go rp4 (by omega))); (try (have i_rp4 := Imp.go rp4 (by omega))); (try (have i_t39 := Imp.go t39 (by omega))); (try (have i_t40 := Imp.go t40 (by omega))); omega)
            have er52 : (V 10 (Int32.toNatClampNeg (V6 6 6))) = V 10 (gs + y5.toInt.toNat) := by rw [ek53]
            have hp54 : isLD (V 10 (Int32.toNatClampNeg (V6 6 6))) := Or.inl (Imp.go t39 (by omega))
            exact ihlp7 0 z45 V47 H locs ls (by first | exact om_42da437a9ba1 rp3 r1.2 xlp7_1 f35 f44 hz45 | first | omega | ((try (have i_t40 := Imp.go t40 (by omega))); (try (have i_t39 := Imp.go t39 (by omega))); (try (have i_rp4 := Imp.go rp4 (by omega))); (try (have i_rp4 := Imp.go rp4 (by omega))); (try (have i_t39 := Imp.go t39 (by omega))); (try (have i_t40 := Imp.go t40 (by omega))); omega)) (show (V47 6 6).toInt ≤ (V47 6 5).toInt from by first | exact om_1257dc0753d6 f35 hz46 pq49 pq50 | first | omega | ((try (have i_t40 := Imp.go t40 (by omega))); (try (have i_t39 := Imp.go t39 (by omega))); (try (have i_rp4 := Imp.go rp4 (by omega))); (try (have i_rp4 := Imp.go rp4 (by omega))); (try (have i_t39 := Imp.go t39 (by omega))); (try (have i_t40 := Imp.go t40 (by omega))); omega)) (show (V 6 6).toInt + z45.toInt = (V47 6 6).toInt from by first | exact om_662a1892167c xlp7_1 hz45 hz46 pq50 | first | omega | ((try (have i_t40 := Imp.go t40 (by omega))); (try (have i_t39 := Imp.go t39 (by omega))); (try (have i_rp4 := Imp.go rp4 (by omega))); (try (have i_rp4 := Imp.go rp4 (by omega))); (try (have i_t39 := Imp.go t39 (by omega))); (try (have i_t40 := Imp.go t40 (by omega))); omega)) (fun k h => by by_cases c : (k : Int) < y5.toInt; exact xlp7_2 k c; have ek : k = y5.toInt.toNat := (by first | omega | ((try (have i_t40 := Imp.go t40 (by omega))); (try (have i_t39 := Imp.go t39 (by omega))); (try (have i_rp4 := Imp.go rp4 (by omega))); (try (have i_rp4 := Imp.go rp4 (by omega))); (try (have i_t39 := Imp.go t39 (by omega))); (try (have i_t40 := Imp.go t40 (by omega))); omega)); rw [ek, ← er52]; exact hp54) (fun h => absurd h (by first | omega | ((try (have i_t40 := Imp.go t40 (by omega))); (try (have i_t39 := Imp.go t39 (by omega))); (try (have i_rp4 := Imp.go rp4 (by omega))); (try (have i_rp4 := Imp.go rp4 (by omega))); (try (have i_t39 := Imp.go t39 (by omega))); (try (have i_t40 := Imp.go t40 (by omega))); omega))) (by first | exact om_91b464413286 hn pq8 hz46 pq49 pq50 | first | omega | ((try (have i_t40 := Imp.go t40 (by omega))); (try (have i_t39 := Imp.go t39 (by omega))); (try (have i_rp4 := Imp.go rp4 (by omega))); (try (have i_rp4 := Imp.go rp4 (by omega))); (try (have i_t39 := Imp.go t39 (by omega))); (try (have i_t40 := Imp.go t40 (by omega))); omega)) (agr.up (agr.tr agr.rf ajV6 (by decide) (by decide)) hV47 rfl) hMV47 hP hD hS (lv_sub hl [1, 0, 2] rfl)
          · skip
            have f55 : y5.toInt < 12 := b_nle (by decide) rfl c43
            refine lv_lload_n hx hb dX9_cutWord_51 rfl (lv_at hl 0 rfl) ?_
            refine lv_ldc2 (v := 37) hx hb hown (hg _ w245) dX9_cutWord_52 ?_
            refine lv_lmul hx hb dX9_cutWord_55 ?_
            refine lv_topl (fun w56 ew56 => ?_)
            refine lv_aload_n hx hb dX9_cutWord_56 rfl (lv_at hl 2 rfl) ?_
            refine va_get (D := D) (ci := 9) (v := .ref (ad 7)) (fs := (xfTape ad V6 L Z)) (C := RX9) (T := TX9) (N := 12) hx hb hg inX9 hown hK hP 6 xgTape rfl 0 (by decide) (hg _ w252) (fun _ h9 => h9) rfl dX9_cutWord_57 ?_
            refine lv_aload_n hx hb dX9_cutWord_60 rfl (lv_at hl 2 rfl) ?_
            refine va_get (D := D) (ci := 9) (v := .int (V6 6 6)) (fs := (xfTape ad V6 L Z)) (C := RX9) (T := TX9) (N := 12) hx hb hg inX9 hown hK hP 6 xgTape rfl 6 (by decide) (hg _ w259) (fun _ h9 => h9) rfl dX9_cutWord_61 ?_
            refine va_bald (D := D) (i := (V6 6 6)) hx hb hK hP 7 0 rfl rfl (i_in (a := ((V6 6 6)).toInt) rfl (by first | omega | ((try (have i_t40 := Imp.go t40 (by omega))); (try (have i_t39 := Imp.go t39 (by omega))); (try (have i_rp4 := Imp.go rp4 (by omega))); (try (have i_rp4 := Imp.go rp4 (by omega))); (try (have i_t39 := Imp.go t39 (by omega))); (try (have i_t40 := Imp.go t40 (by omega))); omega))) dX9_cutWord_64 ?_
            refine g_top (v := (V 10 (Int32.toNatClampNeg (V6 6 6)))) (ajV6 10 (Int32.toNatClampNeg (V6 6 6)) rfl) ?_
            refine gE_int (g_runS (As := [.int (V 10 (Int32.toNatClampNeg (V6 6 6)))]) (rest := [.long w56]) (wc := []) (tc := []) hx hb hml hown hg gw_self hP hD hK hS hA hnw hgk [] [] (by decide) rfl rfl (x_codeOf2 l D ks H.size (V 10 (Int32.toNatClampNeg (V6 6 6))) ) w246 w247 w157 w248 hdS_yX9_codeOf ⟨Nat.le_of_ble_eq_true rfl, Nat.le_of_ble_eq_true rfl⟩ rfl hl.1 rfl (Nat.le_of_ble_eq_true rfl) dX9_cutWord_65 ⟨Nat.le_of_ble_eq_true rfl, Nat.le_of_ble_eq_true rfl⟩) hP hD hK hS hA (fun z57 u58 H locs w59 hP hD hK hS => ?_)
            have t60 := w59
            have t60 : z57 = (if 48 ≤ ((V 10 (Int32.toNatClampNeg (V6 6 6)))).toInt ∧ ((V 10 (Int32.toNatClampNeg (V6 6 6)))).toInt ≤ 57 then (V 10 (Int32.toNatClampNeg (V6 6 6))) - 48 + 27 else (V 10 (Int32.toNatClampNeg (V6 6 6))) - 97 + 1) := t60
            refine lv_i2l hx hb dX9_cutWord_68 rfl ?_
            refine lv_topl (fun w61 ew61 => ?_)
            refine lv_ladd hx hb dX9_cutWord_69 ?_
            refine lv_topl (fun w62 ew62 => ?_)
            refine lv_goto (tgt := 74) hx hb dX9_cutWord_70 (by decide) ?_
            refine lv_lstore_n (lv' := [(2, .long w62), (1, .int y5), (0, .ref (ad 6))]) hx hb dX9_cutWord_74 rfl hl (by decide) rfl (fun ls hl => ?_)
            obtain ⟨z63, ez63⟩ : ∃ y : Int32, y = y5 + 1 := ⟨_, rfl⟩
            have hz63 : z63.toInt = y5.toInt + 1 := i_add ez63 rfl (by decide) (by (first | exact om_4464765f026c klp7_0.1 f55 | omega))
            refine lv_iinc (v := z63) (lv' := [(1, .int z63), (2, .long w62), (0, .ref (ad 6))]) hx hb dX9_cutWord_75 hl (k := 1) rfl (by rw [ez63]; rfl) (by decide) rfl (fun ls hl => ?_)
            refine lv_aload_n hx hb dX9_cutWord_78 rfl (lv_at hl 2 rfl) ?_
            refine lv_dup hx hb dX9_cutWord_79 rfl ?_
            refine va_get (D := D) (ci := 9) (v := .int (V6 6 6)) (fs := (xfTape ad V6 L Z)) (C := RX9) (T := TX9) (N := 12) hx hb hg inX9 hown hK hP 6 xgTape rfl 6 (by decide) (hg _ w259) (fun _ h9 => h9) rfl dX9_cutWord_80 ?_
            refine lv_iconst (v := 1) hx hb dX9_cutWord_83 (by decide) ?_
            refine lv_iadd hx hb dX9_cutWord_84 ?_
            refine lv_topi (fun z64 ez64 => ?_)
            have hz64 : z64.toInt = ((V6 6 6)).toInt + 1 := i_add ez64 rfl (by decide) (by (first | exact om_41955fcb6566 r1.2 r2.1 klp7_0.1 xlp7_1 f35 | omega))
            refine va_put (D := D) (ci := 9) (v := .int z64) (ty := tyX9 6) (fs := (xfTape ad V6 L Z)) (C := RX9) (T := TX9) (N := 12) hx hb hg inX9 tyX9 tyX9_ok nmX9 hown hK hP hD hS 6 xgTape rfl 6 (by decide) (hg _ w259) (fun _ h9 => h9) rfl (tyX9_ok 6 (by decide)) rfl rfl (Nat.le_of_ble_eq_true rfl) dX9_cutWord_85 (fun H locs hP hD hS => ?_)
            obtain ⟨V65, hV65⟩ : ∃ z, z = up2 V6 6 6 z64 := ⟨_, rfl⟩
            have ew66 : (xw ad kk V6 L Z).set 6 ((ad 6), .inr (9, (xfTape ad V6 L Z).set 6 (.int z64))) = xw ad kk V65 L Z := by rw [hV65]; exact xw_ss (by decide) rfl (xb_si (by decide))
            have hP : va_P D vwCl (xw ad kk V65 L Z) H := by rw [← ew66]; exact hP
            have hD : va_D A (xw ad kk V65 L Z) := by rw [← ew66]; exact hD
            have hMV65 : rgd bX V65 := hMV6.put hV65 (show 0 ≤ z64.toInt ∧ z64.toInt ≤ 4000 from by first | exact om_5bd73bff3568 r1.2 r2.1 klp7_0.1 xlp7_1 f35 hz64 | first | omega | ((try (have i_t40 := Imp.go t40 (by omega))); (try (have i_t39 := Imp.go t39 (by omega))); (try (have i_rp4 := Imp.go rp4 (by omega))); (try (have i_rp4 := Imp.go rp4 (by omega))); (try (have i_t39 := Imp.go t39 (by omega))); (try (have i_t40 := Imp.go t40 (by omega))); omega))
            have agV65 : agr [(6, 6)] [12, 14] V V65 := agV6.up hV65 rfl
            refine lv_goto (tgt := 4) hx hb dX9_cutWord_88 (by decide) ?_
            have pq67 : (V65 6 5).toInt = ((V 6 5)).toInt := congrArg Int32.toInt ((up2_k hV65 (by decide)).trans (ajV6 6 5 rfl))
            have pq68 : (V65 6 6).toInt = z64.toInt := congrArg Int32.toInt (up2_s hV65)
            have kz69 := i_clamp (x := (V6 6 6)) rfl (by first | exact om_fb56619e55db r2.1 klp7_0.1 xlp7_1 | first | omega | ((try (have i_t40 := Imp.go t40 (by omega))); (try (have i_t39 := Imp.go t39 (by omega))); (try (have i_rp4 := Imp.go rp4 (by omega))); (try (have i_rp4 := Imp.go rp4 (by omega))); (try (have i_t39 := Imp.go t39 (by omega))); (try (have i_t40 := Imp.go t40 (by omega))); omega))
            have ek71 : Int32.toNatClampNeg (V6 6 6) = gs + y5.toInt.toNat := by first | omega | ((try (have i_t40 := Imp.go t40 (by omega))); (try (have i_t39 := Imp.go t39 (by omega))); (try (have i_rp4 := Imp.go rp4 (by omega))); (try (have i_rp4 := Imp.go rp4 (by omega))); (try (have i_t39 := Imp.go t39 (by omega))); (try (have i_t40 := Imp.go t40 (by omega))); omega)
            have er70 : (V 10 (Int32.toNatClampNeg (V6 6 6))) = V 10 (gs + y5.toInt.toNat) := by rw [ek71]
            have hp72 : isLD (V 10 (Int32.toNatClampNeg (V6 6 6))) := Or.inl (Imp.go t39 (by omega))
            have kz73 := i_clamp (x := (V6 6 6)) rfl (by first | exact om_eafa9039069c r9.1 | first | omega | ((try (have i_t40 := Imp.go t40 (by omega))); (try (have i_t39 := Imp.go t39 (by omega))); (try (have i_rp4 := Imp.go rp4 (by omega))); (try (have i_rp4 := Imp.go rp4 (by omega))); (try (have i_t39 := Imp.go t39 (by omega))); (try (have i_t40 := Imp.go t40 (by omega))); omega))
            have ek75 : Int32.toNatClampNeg (V6 6 6) = gs + y5.toInt.toNat := by first | exact om_c9d69e9747b1 ek71 | first | omega | ((try (have i_t40 := Imp.go t40 (by omega))); (try (have i_t39 := Imp.go t39 (by omega))); (try (have i_rp4 := Imp.go rp4 (by omega))); (try (have i_rp4 := Imp.go rp4 (by omega))); (try (have i_t39 := Imp.go t39 (by omega))); (try (have i_t40 := Imp.go t40 (by omega))); omega)
            have er74 : (V 10 (Int32.toNatClampNeg (V6 6 6))) = V 10 (gs + y5.toInt.toNat) := by rw [ek75]
            have ez76 : z63.toInt.toNat = y5.toInt.toNat + 1 := by first | omega | ((try (have i_t40 := Imp.go t40 (by omega))); (try (have i_t39 := Imp.go t39 (by omega))); (try (have i_rp4 := Imp.go rp4 (by omega))); (try (have i_rp4 := Imp.go rp4 (by omega))); (try (have i_t39 := Imp.go t39 (by omega))); (try (have i_t40 := Imp.go t40 (by omega))); omega)
            exact ihlp7 w62 z63 V65 H locs ls (by first | exact om_a88abdac34d9 rp3 xlp7_1 f55 hz63 kz69 ek71 | first | omega | ((try (have i_t40 := Imp.go t40 (by omega))); (try (have i_t39 := Imp.go t39 (by omega))); (try (have i_rp4 := Imp.go rp4 (by omega))); (try (have i_rp4 := Imp.go rp4 (by omega))); (try (have i_t39 := Imp.go t39 (by omega))); (try (have i_t40 := Imp.go t40 (by omega))); omega)) (show (V65 6 6).toInt ≤ (V65 6 5).toInt from by first | exact om_1257dc0753d6 f35 hz64 pq67 pq68 | first | omega | ((try (have i_t40 := Imp.go t40 (by omega))); (try (have i_t39 := Imp.go t39 (by omega))); (try (have i_rp4 := Imp.go rp4 (by omega))); (try (have i_rp4 := Imp.go rp4 (by omega))); (try (have i_t39 := Imp.go t39 (by omega))); (try (have i_t40 := Imp.go t40 (by omega))); omega)) (show (V 6 6).toInt + z63.toInt = (V65 6 6).toInt from by first | exact om_662a1892167c xlp7_1 hz63 hz64 pq68 | first | omega | ((try (have i_t40 := Imp.go t40 (by omega))); (try (have i_t39 := Imp.go t39 (by omega))); (try (have i_rp4 := Imp.go rp4 (by omega))); (try (have i_rp4 := Imp.go rp4 (by omega))); (try (have i_t39 := Imp.go t39 (by omega))); (try (have i_t40 := Imp.go t40 (by omega))); omega)) (fun k h => by by_cases c : (k : Int) < y5.toInt; exact xlp7_2 k c; have ek : k = y5.toInt.toNat := (by first | omega | ((try (have i_t40 := Imp.go t40 (by omega))); (try (have i_t39 := Imp.go t39 (by omega))); (try (have i_rp4 := Imp.go rp4 (by omega))); (try (have i_rp4 := Imp.go rp4 (by omega))); (try (have i_t39 := Imp.go t39 (by omega))); (try (have i_t40 := Imp.go t40 (by omega))); omega)); rw [ek, ← er70]; exact hp72) (fun h9 => by rw [ez76, wv_s, ← xlp7_3 (by first | omega | ((try (have i_t40 := Imp.go t40 (by omega))); (try (have i_t39 := Imp.go t39 (by omega))); (try (have i_rp4 := Imp.go rp4 (by omega))); (try (have i_rp4 := Imp.go rp4 (by omega))); (try (have i_t39 := Imp.go t39 (by omega))); (try (have i_t40 := Imp.go t40 (by omega))); omega)), ← er74]; exact ew62.trans (by rw [ew56, ew61, t60]; rfl)) (by first | exact om_91b464413286 hn pq8 hz64 pq67 pq68 | first | omega | ((try (have i_t40 := Imp.go t40 (by omega))); (try (have i_t39 := Imp.go t39 (by omega))); (try (have i_rp4 := Imp.go rp4 (by omega))); (try (have i_rp4 := Imp.go rp4 (by omega))); (try (have i_t39 := Imp.go t39 (by omega))); (try (have i_t40 := Imp.go t40 (by omega))); omega)) (agr.up (agr.tr agr.rf ajV6 (by decide) (by decide)) hV65 rfl) hMV65 hP hD hS (lv_sub hl [1, 0, 2] rfl)
        · skip
          have f77 : z36.toInt = 0 := b_eq rfl (by decide) c41
          refine lv_aload_n hx hb dX9_cutWord_30 rfl (lv_at hl 2 rfl) ?_
          refine va_get (D := D) (ci := 9) (v := .ref (ad 7)) (fs := (xfTape ad V6 L Z)) (C := RX9) (T := TX9) (N := 12) hx hb hg inX9 hown hK hP 6 xgTape rfl 0 (by decide) (hg _ w252) (fun _ h9 => h9) rfl dX9_cutWord_31 ?_
          refine lv_aload_n hx hb dX9_cutWord_34 rfl (lv_at hl 2 rfl) ?_
          refine va_get (D := D) (ci := 9) (v := .int (V6 6 6)) (fs := (xfTape ad V6 L Z)) (C := RX9) (T := TX9) (N := 12) hx hb hg inX9 hown hK hP 6 xgTape rfl 6 (by decide) (hg _ w259) (fun _ h9 => h9) rfl dX9_cutWord_35 ?_
          refine va_bald (D := D) (i := (V6 6 6)) hx hb hK hP 7 0 rfl rfl (i_in (a := ((V6 6 6)).toInt) rfl (by first | omega | ((try (have i_t40 := Imp.go t40 (by omega))); (try (have i_t39 := Imp.go t39 (by omega))); (try (have i_rp4 := Imp.go rp4 (by omega))); (try (have i_rp4 := Imp.go rp4 (by omega))); (try (have i_t39 := Imp.go t39 (by omega))); (try (have i_t40 := Imp.go t40 (by omega))); omega))) dX9_cutWord_38 ?_
          refine g_top (v := (V 10 (Int32.toNatClampNeg (V6 6 6)))) (ajV6 10 (Int32.toNatClampNeg (V6 6 6)) rfl) ?_
          refine gE_int (g_runS (As := [.int (V 10 (Int32.toNatClampNeg (V6 6 6)))]) (rest := []) (wc := []) (tc := []) hx hb hml hown hg gw_self hP hD hK hS hA hnw hgk [] [] (by decide) rfl rfl (x_isDigit2 l D ks H.size (V 10 (Int32.toNatClampNeg (V6 6 6))) ) w249 w250 w157 w251 hdS_yX9_isDigit ⟨Nat.le_of_ble_eq_true rfl, Nat.le_of_ble_eq_true rfl⟩ rfl hl.1 rfl (Nat.le_of_ble_eq_true rfl) dX9_cutWord_39 ⟨Nat.le_of_ble_eq_true rfl, Nat.le_of_ble_eq_true rfl⟩) hP hD hK hS hA (fun z78 u79 H locs w80 hP hD hK hS => ?_)
          obtain ⟨rgz78, t81, t82⟩ := w80
          have rgz78 : 0 ≤ z78.toInt ∧ z78.toInt ≤ 1 := rgz78
          have t81 : Imp (z78.toInt = 1) (48 ≤ ((V 10 (Int32.toNatClampNeg (V6 6 6)))).toInt ∧ ((V 10 (Int32.toNatClampNeg (V6 6 6)))).toInt ≤ 57) := t81
          have t82 : Imp (z78.toInt = 0) (((V 10 (Int32.toNatClampNeg (V6 6 6)))).toInt < 48 ∨ 57 < ((V 10 (Int32.toNatClampNeg (V6 6 6)))).toInt) := t82
          refine lv_if_eq (tgt := 91) hx hb dX9_cutWord_42 (by decide) (fun c83 => ?_) (fun c83 => ?_)
          · skip
            have f84 : z78.toInt = 0 := b_eq rfl (by decide) c83
            refine lv_aload_n hx hb dX9_cutWord_91 rfl (lv_at hl 2 rfl) ?_
            refine va_get (D := D) (ci := 9) (v := .ref (ad 9)) (fs := (xfTape ad V6 L Z)) (C := RX9) (T := TX9) (N := 12) hx hb hg inX9 hown hK hP 6 xgTape rfl 2 (by decide) (hg _ w254) (fun _ h9 => h9) rfl dX9_cutWord_92 ?_
            refine lv_aload_n hx hb dX9_cutWord_95 rfl (lv_at hl 2 rfl) ?_
            refine va_get (D := D) (ci := 9) (v := .int (V6 6 7)) (fs := (xfTape ad V6 L Z)) (C := RX9) (T := TX9) (N := 12) hx hb hg inX9 hown hK hP 6 xgTape rfl 7 (by decide) (hg _ w260) (fun _ h9 => h9) rfl dX9_cutWord_96 ?_
            refine g_top (v := (V 6 7)) (ajV6 6 7 rfl) ?_
            refine lv_iload_n hx hb dX9_cutWord_99 rfl (lv_at hl 1 rfl) ?_
            refine lv_bipush (v := 12) hx hb dX9_cutWord_100 (by decide) ?_
            refine lv_icmp_le (tgt := 109) hx hb dX9_cutWord_102 (by decide) (fun c85 => ?_) (fun c85 => ?_)
            · skip
              have f86 : y5.toInt ≤ 12 := b_le rfl (by decide) c85
              refine lv_aload_n hx hb dX9_cutWord_109 rfl (lv_at hl 2 rfl) ?_
              refine lv_lload_n hx hb dX9_cutWord_110 rfl (lv_at hl 0 rfl) ?_
              refine gA_int (gA_runV (As := [.long y4]) (rest := [.int (V 6 7), .ref (ad 9)]) (ci := 9) (q0 := 6) hx hb hml hown hg hP hD hK hS hA hnw hgk (x_kindOf2 l D ks H.size ad kk V6 L Z y4 hMV6 ) w787 w789 w3 w157 w790 rfl xgTape hdV_yX9_kindOf ⟨Nat.le_of_ble_eq_true rfl, Nat.le_of_ble_eq_true rfl⟩ rfl hl.1 rfl (Nat.le_of_ble_eq_true rfl) dX9_cutWord_111 ⟨Nat.le_of_ble_eq_true rfl, Nat.le_of_ble_eq_true rfl⟩) hP hD hK hS hA (fun z87 u88 H locs w89 hP hD hK hS => ?_)
              have t90 := w89
              have t90 : KW L y4 z87.toInt := t90
              refine va_iast (D := D) (i := (V 6 7)) (x := z87) hx hb hK hP hD hS 9 2 rfl rfl (i_in (a := ((V 6 7)).toInt) rfl (by first | omega | ((try (have i_t82 := Imp.go t82 (f84))); (try (have i_t40 := Imp.go t40 (f77))); omega) | ((try (have i_t82 := Imp.go t82 (by omega))); (try (have i_t81 := Imp.go t81 (by omega))); (try (have i_t40 := Imp.go t40 (by omega))); (try (have i_t39 := Imp.go t39 (by omega))); first | omega | ((try (have i_rp4 := Imp.go rp4 (by omega))); (try (have i_rp4 := Imp.go rp4 (by omega))); (try (have i_t39 := Imp.go t39 (by omega))); (try (have i_t40 := Imp.go t40 (by omega))); (try (have i_t81 := Imp.go t81 (by omega))); (try (have i_t82 := Imp.go t82 (by omega))); omega)))) dX9_cutWord_114 (fun H locs hP hD hS => ?_)
              obtain ⟨V91, hV91⟩ : ∃ z, z = up2 V6 12 (Int32.toNatClampNeg (V 6 7)) z87 := ⟨_, rfl⟩
              have ew92 : (xw ad kk V6 L Z).set 9 ((ad 9), .inl ((kk 9), 4001, .inl (upd (V6 12) (Int32.toNatClampNeg (V 6 7)) z87))) = xw ad kk V91 L Z := by rw [hV91]; exact xw_ss (by decide) rfl (xb_si (by decide))
              have hP : va_P D vwCl (xw ad kk V91 L Z) H := by rw [← ew92]; exact hP
              have hD : va_D A (xw ad kk V91 L Z) := by rw [← ew92]; exact hD
              have hMV91 : rgd bX V91 := hMV6.put hV91 (i_full _)
              have agV91 : agr [(6, 6)] [12, 14] V V91 := agV6.up hV91 rfl
              refine lv_aload_n hx hb dX9_cutWord_115 rfl (lv_at hl 2 rfl) ?_
              refine va_get (D := D) (ci := 9) (v := .ref (ad 11)) (fs := (xfTape ad V91 L Z)) (C := RX9) (T := TX9) (N := 12) hx hb hg inX9 hown hK hP 6 xgTape rfl 4 (by decide) (hg _ w256) (fun _ h9 => h9) rfl dX9_cutWord_116 ?_
              refine lv_aload_n hx hb dX9_cutWord_119 rfl (lv_at hl 2 rfl) ?_
              refine va_get (D := D) (ci := 9) (v := .int (V91 6 7)) (fs := (xfTape ad V91 L Z)) (C := RX9) (T := TX9) (N := 12) hx hb hg inX9 hown hK hP 6 xgTape rfl 7 (by decide) (hg _ w260) (fun _ h9 => h9) rfl dX9_cutWord_120 ?_
              refine g_top (v := (V 6 7)) ((up2_o hV91 (by decide)).trans (ajV6 6 7 rfl)) ?_
              refine lv_lload_n hx hb dX9_cutWord_123 rfl (lv_at hl 0 rfl) ?_
              refine va_last (D := D) (i := (V 6 7)) (x := y4) hx hb hK hP hD hS 11 4 rfl rfl (i_in (a := ((V 6 7)).toInt) rfl (by first | omega | ((try (have i_t82 := Imp.go t82 (f84))); (try (have i_t40 := Imp.go t40 (f77))); omega) | ((try (have i_t82 := Imp.go t82 (by omega))); (try (have i_t81 := Imp.go t81 (by omega))); (try (have i_t40 := Imp.go t40 (by omega))); (try (have i_t39 := Imp.go t39 (by omega))); first | omega | ((try (have i_rp4 := Imp.go rp4 (by omega))); (try (have i_rp4 := Imp.go rp4 (by omega))); (try (have i_t39 := Imp.go t39 (by omega))); (try (have i_t40 := Imp.go t40 (by omega))); (try (have i_t81 := Imp.go t81 (by omega))); (try (have i_t82 := Imp.go t82 (by omega))); omega)))) dX9_cutWord_124 (fun H locs hP hD hS => ?_)
              obtain ⟨L93, hL93⟩ : ∃ z, z = upL L 14 (Int32.toNatClampNeg (V 6 7)) y4 := ⟨_, rfl⟩
              have ew94 : (xw ad kk V91 L Z).set 11 ((ad 11), .inl ((kk 11), 4001, .inr (.inl (vp_updL (L 14) (Int32.toNatClampNeg (V 6 7)) y4)))) = xw ad kk V91 L93 Z := by rw [hL93]; exact xw_ss (by decide) rfl (fun j => xe_L (fun a => absurd a.1 (by decide)))
              have hP : va_P D vwCl (xw ad kk V91 L93 Z) H := by rw [← ew94]; exact hP
              have hD : va_D A (xw ad kk V91 L93 Z) := by rw [← ew94]; exact hD
              have alL93 : agL [14] L L93 := agL.up alL hL93 rfl
              have kz95 := i_clamp (x := (V6 6 6)) rfl (by first | exact om_fb56619e55db r2.1 klp7_0.1 xlp7_1 | first | omega | ((try (have i_t82 := Imp.go t82 (f84))); (try (have i_t40 := Imp.go t40 (f77))); omega) | ((try (have i_t82 := Imp.go t82 (by omega))); (try (have i_t81 := Imp.go t81 (by omega))); (try (have i_t40 := Imp.go t40 (by omega))); (try (have i_t39 := Imp.go t39 (by omega))); first | omega | ((try (have i_rp4 := Imp.go rp4 (by omega))); (try (have i_rp4 := Imp.go rp4 (by omega))); (try (have i_t39 := Imp.go t39 (by omega))); (try (have i_t40 := Imp.go t40 (by omega))); (try (have i_t81 := Imp.go t81 (by omega))); (try (have i_t82 := Imp.go t82 (by omega))); omega)))
              have ek97 : Int32.toNatClampNeg (V6 6 6) = gs + y5.toInt.toNat := by first | omega | ((try (have i_t82 := Imp.go t82 (f84))); (try (have i_t40 := Imp.go t40 (f77))); omega) | ((try (have i_t82 := Imp.go t82 (by omega))); (try (have i_t81 := Imp.go t81 (by omega))); (try (have i_t40 := Imp.go t40 (by omega))); (try (have i_t39 := Imp.go t39 (by omega))); first | omega | ((try (have i_rp4 := Imp.go rp4 (by omega))); (try (have i_rp4 := Imp.go rp4 (by omega))); (try (have i_t39 := Imp.go t39 (by omega))); (try (have i_t40 := Imp.go t40 (by omega))); (try (have i_t81 := Imp.go t81 (by omega))); (try (have i_t82 := Imp.go t82 (by omega))); omega))
              have er96 : (V 10 (Int32.toNatClampNeg (V6 6 6))) = V 10 (gs + y5.toInt.toNat) := by rw [ek97]
              have nd98 : ¬ isLD (V 10 (gs + y5.toInt.toNat)) := by rw [← er96]; exact (fun q => q.elim (fun z => by have y := Imp.go t40 (by omega); have z1 := z.1; have z2 := z.2; omega) (fun z => by have y := Imp.go t82 (by omega); have z1 := z.1; have z2 := z.2; omega))
              have hl0 : 0 < y5.toInt.toNat := Nat.pos_of_ne_zero (fun h0 => nd98 (by rw [h0]; exact Or.inl rp4))
              have hrun : RUN isLD (V 10) (V 6 5).toInt.toNat gs (gs + y5.toInt.toNat) := ⟨by omega, by first | omega | ((try (have i_t82 := Imp.go t82 (f84))); (try (have i_t40 := Imp.go t40 (f77))); omega) | ((try (have i_t82 := Imp.go t82 (by omega))); (try (have i_t81 := Imp.go t81 (by omega))); (try (have i_t40 := Imp.go t40 (by omega))); (try (have i_t39 := Imp.go t39 (by omega))); first | omega | ((try (have i_rp4 := Imp.go rp4 (by omega))); (try (have i_rp4 := Imp.go rp4 (by omega))); (try (have i_t39 := Imp.go t39 (by omega))); (try (have i_t40 := Imp.go t40 (by omega))); (try (have i_t81 := Imp.go t81 (by omega))); (try (have i_t82 := Imp.go t82 (by omega))); omega)), fun k a b => by have z := xlp7_2 (k - gs) (by omega); rw [show gs + (k - gs) = k from by omega] at z; exact z, Or.inr nd98⟩
              have hsub : gs + y5.toInt.toNat - gs = y5.toInt.toNat := Nat.add_sub_cancel_left _ _
              have pq99 : (V91 6 6).toInt = ((V6 6 6)).toInt := congrArg Int32.toInt (up2_o hV91 (by decide))
              have ek100 : V91 12 (Int32.toNatClampNeg (V 6 7)) = z87 := (up2_s hV91)
              have hL14 : L93 14 (Int32.toNatClampNeg (V 6 7)) = y4 := by rw [hL93]; unfold upL vp_updL; rw [if_pos rfl, if_pos rfl]
              have rp101 : ∃ e : Nat, RUN isLD (V 10) (V 6 5).toInt.toNat gs e ∧ (V91 6 6).toInt = (e : Int) ∧ (12 < e - gs → (V91 12 (Int32.toNatClampNeg (V 6 7))).toInt = 1) ∧ (e - gs ≤ 12 → KW L (wv (V 10) gs (e - gs)) (V91 12 (Int32.toNatClampNeg (V 6 7))).toInt ∧ L93 14 (Int32.toNatClampNeg (V 6 7)) = wv (V 10) gs (e - gs)) := ⟨_, hrun, by first | omega | ((try (have i_t82 := Imp.go t82 (f84))); (try (have i_t40 := Imp.go t40 (f77))); omega) | ((try (have i_t82 := Imp.go t82 (by omega))); (try (have i_t81 := Imp.go t81 (by omega))); (try (have i_t40 := Imp.go t40 (by omega))); (try (have i_t39 := Imp.go t39 (by omega))); first | omega | ((try (have i_rp4 := Imp.go rp4 (by omega))); (try (have i_rp4 := Imp.go rp4 (by omega))); (try (have i_t39 := Imp.go t39 (by omega))); (try (have i_t40 := Imp.go t40 (by omega))); (try (have i_t81 := Imp.go t81 (by omega))); (try (have i_t82 := Imp.go t82 (by omega))); omega)), fun h => by rw [hsub] at h; rw [ek100]; exfalso; omega, fun h => by rw [hsub] at h ⊢; exact ⟨(by rw [ek100]; rw [← xlp7_3 (by first | omega | ((try (have i_t82 := Imp.go t82 (f84))); (try (have i_t40 := Imp.go t40 (f77))); omega) | ((try (have i_t82 := Imp.go t82 (by omega))); (try (have i_t81 := Imp.go t81 (by omega))); (try (have i_t40 := Imp.go t40 (by omega))); (try (have i_t39 := Imp.go t39 (by omega))); first | omega | ((try (have i_rp4 := Imp.go rp4 (by omega))); (try (have i_rp4 := Imp.go rp4 (by omega))); (try (have i_t39 := Imp.go t39 (by omega))); (try (have i_t40 := Imp.go t40 (by omega))); (try (have i_t81 := Imp.go t81 (by omega))); (try (have i_t82 := Imp.go t82 (by omega))); omega)))]; exact t90), by rw [hL14]; exact xlp7_3 (by first | omega | ((try (have i_t82 := Imp.go t82 (f84))); (try (have i_t40 := Imp.go t40 (f77))); omega) | ((try (have i_t82 := Imp.go t82 (by omega))); (try (have i_t81 := Imp.go t81 (by omega))); (try (have i_t40 := Imp.go t40 (by omega))); (try (have i_t39 := Imp.go t39 (by omega))); first | omega | ((try (have i_rp4 := Imp.go rp4 (by omega))); (try (have i_rp4 := Imp.go rp4 (by omega))); (try (have i_t39 := Imp.go t39 (by omega))); (try (have i_t40 := Imp.go t40 (by omega))); (try (have i_t81 := Imp.go t81 (by omega))); (try (have i_t82 := Imp.go t82 (by omega))); omega)))⟩⟩
              have hF12 : V91 12 = upd (V 12) (Int32.toNatClampNeg (V 6 7)) z87 := by rw [up2_fn hV91, show V6 12 = V 12 from funext (fun q => ajV6 12 q rfl)]
              have rp102 : ∀ k : Nat, k ≠ (Int32.toNatClampNeg (V 6 7)) → V91 12 k = V 12 k ∧ L93 14 k = L 14 k := fun k hk => ⟨by rw [hF12]; exact if_neg hk, by rw [hL93]; unfold upL vp_updL; rw [if_pos rfl, if_neg hk]⟩
              exact W.vret hx hb hr (fun t ht hW => ⟨⟨(V91, L93), rfl, ⟨hMV91, agV91, alL93, rp101, rp102⟩, by rw [ht]; exact hP, va_K.moved hW.alike hK, hD⟩, hS.F ht⟩) hS.2.2 dX9_cutWord_125
            · skip
              have f103 : 12 < y5.toInt := b_nle rfl (by decide) c85
              refine lv_iconst (v := 1) hx hb dX9_cutWord_105 (by decide) ?_
              refine lv_goto (tgt := 114) hx hb dX9_cutWord_106 (by decide) ?_
              refine va_iast (D := D) (i := (V 6 7)) (x := 1) hx hb hK hP hD hS 9 2 rfl rfl (i_in (a := ((V 6 7)).toInt) rfl (by first | omega | ((try (have i_t82 := Imp.go t82 (f84))); (try (have i_t40 := Imp.go t40 (f77))); omega) | ((try (have i_t82 := Imp.go t82 (by omega))); (try (have i_t81 := Imp.go t81 (by omega))); (try (have i_t40 := Imp.go t40 (by omega))); (try (have i_t39 := Imp.go t39 (by omega))); first | omega | ((try (have i_rp4 := Imp.go rp4 (by omega))); (try (have i_rp4 := Imp.go rp4 (by omega))); (try (have i_t39 := Imp.go t39 (by omega))); (try (have i_t40 := Imp.go t40 (by omega))); (try (have i_t81 := Imp.go t81 (by omega))); (try (have i_t82 := Imp.go t82 (by omega))); omega)))) dX9_cutWord_114 (fun H locs hP hD hS => ?_)
              obtain ⟨V104, hV104⟩ : ∃ z, z = up2 V6 12 (Int32.toNatClampNeg (V 6 7)) 1 := ⟨_, rfl⟩
              have ew105 : (xw ad kk V6 L Z).set 9 ((ad 9), .inl ((kk 9), 4001, .inl (upd (V6 12) (Int32.toNatClampNeg (V 6 7)) 1))) = xw ad kk V104 L Z := by rw [hV104]; exact xw_ss (by decide) rfl (xb_si (by decide))
              have hP : va_P D vwCl (xw ad kk V104 L Z) H := by rw [← ew105]; exact hP
              have hD : va_D A (xw ad kk V104 L Z) := by rw [← ew105]; exact hD
              have hMV104 : rgd bX V104 := hMV6.put hV104 (i_full _)
              have agV104 : agr [(6, 6)] [12, 14] V V104 := agV6.up hV104 rfl
              refine lv_aload_n hx hb dX9_cutWord_115 rfl (lv_at hl 2 rfl) ?_
              refine va_get (D := D) (ci := 9) (v := .ref (ad 11)) (fs := (xfTape ad V104 L Z)) (C := RX9) (T := TX9) (N := 12) hx hb hg inX9 hown hK hP 6 xgTape rfl 4 (by decide) (hg _ w256) (fun _ h9 => h9) rfl dX9_cutWord_116 ?_
              refine lv_aload_n hx hb dX9_cutWord_119 rfl (lv_at hl 2 rfl) ?_
              refine va_get (D := D) (ci := 9) (v := .int (V104 6 7)) (fs := (xfTape ad V104 L Z)) (C := RX9) (T := TX9) (N := 12) hx hb hg inX9 hown hK hP 6 xgTape rfl 7 (by decide) (hg _ w260) (fun _ h9 => h9) rfl dX9_cutWord_120 ?_
              refine g_top (v := (V 6 7)) ((up2_o hV104 (by decide)).trans (ajV6 6 7 rfl)) ?_
              refine lv_lload_n hx hb dX9_cutWord_123 rfl (lv_at hl 0 rfl) ?_
              refine va_last (D := D) (i := (V 6 7)) (x := y4) hx hb hK hP hD hS 11 4 rfl rfl (i_in (a := ((V 6 7)).toInt) rfl (by first | omega | ((try (have i_t82 := Imp.go t82 (f84))); (try (have i_t40 := Imp.go t40 (f77))); omega) | ((try (have i_t82 := Imp.go t82 (by omega))); (try (have i_t81 := Imp.go t81 (by omega))); (try (have i_t40 := Imp.go t40 (by omega))); (try (have i_t39 := Imp.go t39 (by omega))); first | omega | ((try (have i_rp4 := Imp.go rp4 (by omega))); (try (have i_rp4 := Imp.go rp4 (by omega))); (try (have i_t39 := Imp.go t39 (by omega))); (try (have i_t40 := Imp.go t40 (by omega))); (try (have i_t81 := Imp.go t81 (by omega))); (try (have i_t82 := Imp.go t82 (by omega))); omega)))) dX9_cutWord_124 (fun H locs hP hD hS => ?_)
              obtain ⟨L106, hL106⟩ : ∃ z, z = upL L 14 (Int32.toNatClampNeg (V 6 7)) y4 := ⟨_, rfl⟩
              have ew107 : (xw ad kk V104 L Z).set 11 ((ad 11), .inl ((kk 11), 4001, .inr (.inl (vp_updL (L 14) (Int32.toNatClampNeg (V 6 7)) y4)))) = xw ad kk V104 L106 Z := by rw [hL106]; exact xw_ss (by decide) rfl (fun j => xe_L (fun a => absurd a.1 (by decide)))
              have hP : va_P D vwCl (xw ad kk V104 L106 Z) H := by rw [← ew107]; exact hP
              have hD : va_D A (xw ad kk V104 L106 Z) := by rw [← ew107]; exact hD
              have alL106 : agL [14] L L106 := agL.up alL hL106 rfl
              have kz108 := i_clamp (x := (V6 6 6)) rfl (by first | exact om_8b6d7bd4811d r2.1 xlp7_1 f103 | first | omega | ((try (have i_t82 := Imp.go t82 (f84))); (try (have i_t40 := Imp.go t40 (f77))); omega) | ((try (have i_t82 := Imp.go t82 (by omega))); (try (have i_t81 := Imp.go t81 (by omega))); (try (have i_t40 := Imp.go t40 (by omega))); (try (have i_t39 := Imp.go t39 (by omega))); first | omega | ((try (have i_rp4 := Imp.go rp4 (by omega))); (try (have i_rp4 := Imp.go rp4 (by omega))); (try (have i_t39 := Imp.go t39 (by omega))); (try (have i_t40 := Imp.go t40 (by omega))); (try (have i_t81 := Imp.go t81 (by omega))); (try (have i_t82 := Imp.go t82 (by omega))); omega)))
              have ek110 : Int32.toNatClampNeg (V6 6 6) = gs + y5.toInt.toNat := by first | omega | ((try (have i_t82 := Imp.go t82 (f84))); (try (have i_t40 := Imp.go t40 (f77))); omega) | ((try (have i_t82 := Imp.go t82 (by omega))); (try (have i_t81 := Imp.go t81 (by omega))); (try (have i_t40 := Imp.go t40 (by omega))); (try (have i_t39 := Imp.go t39 (by omega))); first | omega | ((try (have i_rp4 := Imp.go rp4 (by omega))); (try (have i_rp4 := Imp.go rp4 (by omega))); (try (have i_t39 := Imp.go t39 (by omega))); (try (have i_t40 := Imp.go t40 (by omega))); (try (have i_t81 := Imp.go t81 (by omega))); (try (have i_t82 := Imp.go t82 (by omega))); omega))
              have er109 : (V 10 (Int32.toNatClampNeg (V6 6 6))) = V 10 (gs + y5.toInt.toNat) := by rw [ek110]
              have nd111 : ¬ isLD (V 10 (gs + y5.toInt.toNat)) := by rw [← er109]; exact (fun q => q.elim (fun z => by have y := Imp.go t40 (by omega); have z1 := z.1; have z2 := z.2; omega) (fun z => by have y := Imp.go t82 (by omega); have z1 := z.1; have z2 := z.2; omega))
              have hl0 : 0 < y5.toInt.toNat := Nat.pos_of_ne_zero (fun h0 => nd111 (by rw [h0]; exact Or.inl rp4))
              have hrun : RUN isLD (V 10) (V 6 5).toInt.toNat gs (gs + y5.toInt.toNat) := ⟨by omega, by first | omega | ((try (have i_t82 := Imp.go t82 (f84))); (try (have i_t40 := Imp.go t40 (f77))); omega) | ((try (have i_t82 := Imp.go t82 (by omega))); (try (have i_t81 := Imp.go t81 (by omega))); (try (have i_t40 := Imp.go t40 (by omega))); (try (have i_t39 := Imp.go t39 (by omega))); first | omega | ((try (have i_rp4 := Imp.go rp4 (by omega))); (try (have i_rp4 := Imp.go rp4 (by omega))); (try (have i_t39 := Imp.go t39 (by omega))); (try (have i_t40 := Imp.go t40 (by omega))); (try (have i_t81 := Imp.go t81 (by omega))); (try (have i_t82 := Imp.go t82 (by omega))); omega)), fun k a b => by have z := xlp7_2 (k - gs) (by omega); rw [show gs + (k - gs) = k from by omega] at z; exact z, Or.inr nd111⟩
              have hsub : gs + y5.toInt.toNat - gs = y5.toInt.toNat := Nat.add_sub_cancel_left _ _
              have pq112 : (V104 6 6).toInt = ((V6 6 6)).toInt := congrArg Int32.toInt (up2_o hV104 (by decide))
              have ek113 : V104 12 (Int32.toNatClampNeg (V 6 7)) = 1 := (up2_s hV104)
              have hL14 : L106 14 (Int32.toNatClampNeg (V 6 7)) = y4 := by rw [hL106]; unfold upL vp_updL; rw [if_pos rfl, if_pos rfl]
              have rp114 : ∃ e : Nat, RUN isLD (V 10) (V 6 5).toInt.toNat gs e ∧ (V104 6 6).toInt = (e : Int) ∧ (12 < e - gs → (V104 12 (Int32.toNatClampNeg (V 6 7))).toInt = 1) ∧ (e - gs ≤ 12 → KW L (wv (V 10) gs (e - gs)) (V104 12 (Int32.toNatClampNeg (V 6 7))).toInt ∧ L106 14 (Int32.toNatClampNeg (V 6 7)) = wv (V 10) gs (e - gs)) := ⟨_, hrun, by first | omega | ((try (have i_t82 := Imp.go t82 (f84))); (try (have i_t40 := Imp.go t40 (f77))); omega) | ((try (have i_t82 := Imp.go t82 (by omega))); (try (have i_t81 := Imp.go t81 (by omega))); (try (have i_t40 := Imp.go t40 (by omega))); (try (have i_t39 := Imp.go t39 (by omega))); first | omega | ((try (have i_rp4 := Imp.go rp4 (by omega))); (try (have i_rp4 := Imp.go rp4 (by omega))); (try (have i_t39 := Imp.go t39 (by omega))); (try (have i_t40 := Imp.go t40 (by omega))); (try (have i_t81 := Imp.go t81 (by omega))); (try (have i_t82 := Imp.go t82 (by omega))); omega)), fun h => by rw [hsub] at h; rw [ek113]; decide, fun h => by rw [hsub] at h ⊢; exact ⟨(by rw [ek113]; exfalso; omega), by rw [hL14]; exact xlp7_3 (by first | omega | ((try (have i_t82 := Imp.go t82 (f84))); (try (have i_t40 := Imp.go t40 (f77))); omega) | ((try (have i_t82 := Imp.go t82 (by omega))); (try (have i_t81 := Imp.go t81 (by omega))); (try (have i_t40 := Imp.go t40 (by omega))); (try (have i_t39 := Imp.go t39 (by omega))); first | omega | ((try (have i_rp4 := Imp.go rp4 (by omega))); (try (have i_rp4 := Imp.go rp4 (by omega))); (try (have i_t39 := Imp.go t39 (by omega))); (try (have i_t40 := Imp.go t40 (by omega))); (try (have i_t81 := Imp.go t81 (by omega))); (try (have i_t82 := Imp.go t82 (by omega))); omega)))⟩⟩
              have hF12 : V104 12 = upd (V 12) (Int32.toNatClampNeg (V 6 7)) 1 := by rw [up2_fn hV104, show V6 12 = V 12 from funext (fun q => ajV6 12 q rfl)]
              have rp115 : ∀ k : Nat, k ≠ (Int32.toNatClampNeg (V 6 7)) → V104 12 k = V 12 k ∧ L106 14 k = L 14 k := fun k hk => ⟨by rw [hF12]; exact if_neg hk, by rw [hL106]; unfold upL vp_updL; rw [if_pos rfl, if_neg hk]⟩
              exact W.vret hx hb hr (fun t ht hW => ⟨⟨(V104, L106), rfl, ⟨hMV104, agV104, alL106, rp114, rp115⟩, by rw [ht]; exact hP, va_K.moved hW.alike hK, hD⟩, hS.F ht⟩) hS.2.2 dX9_cutWord_125
          · skip
            have f116 : z78.toInt ≠ 0 := b_neq rfl (by decide) c83
            refine lv_iload_n hx hb dX9_cutWord_45 rfl (lv_at hl 1 rfl) ?_
            refine lv_bipush (v := 12) hx hb dX9_cutWord_46 (by decide) ?_
            refine lv_icmp_ge (tgt := 73) hx hb dX9_cutWord_48 (by decide) (fun c117 => ?_) (fun c117 => ?_)
            · skip
              have f118 : 12 ≤ y5.toInt := b_le (by decide) rfl c117
              refine lv_lconst (v := 0) hx hb dX9_cutWord_73 (by decide) ?_
              refine lv_lstore_n (lv' := [(2, .long 0), (1, .int y5), (0, .ref (ad 6))]) hx hb dX9_cutWord_74 rfl hl (by decide) rfl (fun ls hl => ?_)
              obtain ⟨z119, ez119⟩ : ∃ y : Int32, y = y5 + 1 := ⟨_, rfl⟩
              have hz119 : z119.toInt = y5.toInt + 1 := i_add ez119 rfl (by decide) (by (first | exact om_89fadfb637be r1.2 r2.1 xlp7_1 f35 f118 | omega))
              refine lv_iinc (v := z119) (lv' := [(1, .int z119), (2, .long 0), (0, .ref (ad 6))]) hx hb dX9_cutWord_75 hl (k := 1) rfl (by rw [ez119]; rfl) (by decide) rfl (fun ls hl => ?_)
              refine lv_aload_n hx hb dX9_cutWord_78 rfl (lv_at hl 2 rfl) ?_
              refine lv_dup hx hb dX9_cutWord_79 rfl ?_
              refine va_get (D := D) (ci := 9) (v := .int (V6 6 6)) (fs := (xfTape ad V6 L Z)) (C := RX9) (T := TX9) (N := 12) hx hb hg inX9 hown hK hP 6 xgTape rfl 6 (by decide) (hg _ w259) (fun _ h9 => h9) rfl dX9_cutWord_80 ?_
              refine lv_iconst (v := 1) hx hb dX9_cutWord_83 (by decide) ?_
              refine lv_iadd hx hb dX9_cutWord_84 ?_
              refine lv_topi (fun z120 ez120 => ?_)
              have hz120 : z120.toInt = ((V6 6 6)).toInt + 1 := i_add ez120 rfl (by decide) (by (first | exact om_5c2f98f06f05 r1.2 r2.1 xlp7_1 f35 f118 | omega))
              refine va_put (D := D) (ci := 9) (v := .int z120) (ty := tyX9 6) (fs := (xfTape ad V6 L Z)) (C := RX9) (T := TX9) (N := 12) hx hb hg inX9 tyX9 tyX9_ok nmX9 hown hK hP hD hS 6 xgTape rfl 6 (by decide) (hg _ w259) (fun _ h9 => h9) rfl (tyX9_ok 6 (by decide)) rfl rfl (Nat.le_of_ble_eq_true rfl) dX9_cutWord_85 (fun H locs hP hD hS => ?_)
              obtain ⟨V121, hV121⟩ : ∃ z, z = up2 V6 6 6 z120 := ⟨_, rfl⟩
              have ew122 : (xw ad kk V6 L Z).set 6 ((ad 6), .inr (9, (xfTape ad V6 L Z).set 6 (.int z120))) = xw ad kk V121 L Z := by rw [hV121]; exact xw_ss (by decide) rfl (xb_si (by decide))
              have hP : va_P D vwCl (xw ad kk V121 L Z) H := by rw [← ew122]; exact hP
              have hD : va_D A (xw ad kk V121 L Z) := by rw [← ew122]; exact hD
              have hMV121 : rgd bX V121 := hMV6.put hV121 (show 0 ≤ z120.toInt ∧ z120.toInt ≤ 4000 from by first | exact om_a97166e33c63 r1.2 r2.1 xlp7_1 f35 f118 hz120 | first | omega | ((try (have i_t81 := Imp.go t81 (imp_a (rgz78.1) (rgz78.2) (f116)))); (try (have i_t40 := Imp.go t40 (f77))); omega) | ((try (have i_t82 := Imp.go t82 (by omega))); (try (have i_t81 := Imp.go t81 (by omega))); (try (have i_t40 := Imp.go t40 (by omega))); (try (have i_t39 := Imp.go t39 (by omega))); first | omega | ((try (have i_rp4 := Imp.go rp4 (by omega))); (try (have i_rp4 := Imp.go rp4 (by omega))); (try (have i_t39 := Imp.go t39 (by omega))); (try (have i_t40 := Imp.go t40 (by omega))); (try (have i_t81 := Imp.go t81 (by omega))); (try (have i_t82 := Imp.go t82 (by omega))); omega)))
              have agV121 : agr [(6, 6)] [12, 14] V V121 := agV6.up hV121 rfl
              refine lv_goto (tgt := 4) hx hb dX9_cutWord_88 (by decide) ?_
              have pq123 : (V121 6 5).toInt = ((V 6 5)).toInt := congrArg Int32.toInt ((up2_k hV121 (by decide)).trans (ajV6 6 5 rfl))
              have pq124 : (V121 6 6).toInt = z120.toInt := congrArg Int32.toInt (up2_s hV121)
              have kz125 := i_clamp (x := (V6 6 6)) rfl (by first | exact om_d873b6e6eff2 r2.1 xlp7_1 f118 | first | omega | ((try (have i_t81 := Imp.go t81 (imp_a (rgz78.1) (rgz78.2) (f116)))); (try (have i_t40 := Imp.go t40 (f77))); omega) | ((try (have i_t82 := Imp.go t82 (by omega))); (try (have i_t81 := Imp.go t81 (by omega))); (try (have i_t40 := Imp.go t40 (by omega))); (try (have i_t39 := Imp.go t39 (by omega))); first | omega | ((try (have i_rp4 := Imp.go rp4 (by omega))); (try (have i_rp4 := Imp.go rp4 (by omega))); (try (have i_t39 := Imp.go t39 (by omega))); (try (have i_t40 := Imp.go t40 (by omega))); (try (have i_t81 := Imp.go t81 (by omega))); (try (have i_t82 := Imp.go t82 (by omega))); omega)))
              have ek127 : Int32.toNatClampNeg (V6 6 6) = gs + y5.toInt.toNat := by first | omega | ((try (have i_t81 := Imp.go t81 (imp_a (rgz78.1) (rgz78.2) (f116)))); (try (have i_t40 := Imp.go t40 (f77))); omega) | ((try (have i_t82 := Imp.go t82 (by omega))); (try (have i_t81 := Imp.go t81 (by omega))); (try (have i_t40 := Imp.go t40 (by omega))); (try (have i_t39 := Imp.go t39 (by omega))); first | omega | ((try (have i_rp4 := Imp.go rp4 (by omega))); (try (have i_rp4 := Imp.go rp4 (by omega))); (try (have i_t39 := Imp.go t39 (by omega))); (try (have i_t40 := Imp.go t40 (by omega))); (try (have i_t81 := Imp.go t81 (by omega))); (try (have i_t82 := Imp.go t82 (by omega))); omega))
              have er126 : (V 10 (Int32.toNatClampNeg (V6 6 6))) = V 10 (gs + y5.toInt.toNat) := by rw [ek127]
              have hp128 : isLD (V 10 (Int32.toNatClampNeg (V6 6 6))) := Or.inr (Imp.go t81 (by omega))
              exact ihlp7 0 z119 V121 H locs ls (by first | exact om_42da437a9ba1 rp3 r1.2 xlp7_1 f35 f118 hz119 | first | omega | ((try (have i_t81 := Imp.go t81 (imp_a (rgz78.1) (rgz78.2) (f116)))); (try (have i_t40 := Imp.go t40 (f77))); omega) | ((try (have i_t82 := Imp.go t82 (by omega))); (try (have i_t81 := Imp.go t81 (by omega))); (try (have i_t40 := Imp.go t40 (by omega))); (try (have i_t39 := Imp.go t39 (by omega))); first | omega | ((try (have i_rp4 := Imp.go rp4 (by omega))); (try (have i_rp4 := Imp.go rp4 (by omega))); (try (have i_t39 := Imp.go t39 (by omega))); (try (have i_t40 := Imp.go t40 (by omega))); (try (have i_t81 := Imp.go t81 (by omega))); (try (have i_t82 := Imp.go t82 (by omega))); omega))) (show (V121 6 6).toInt ≤ (V121 6 5).toInt from by first | exact om_1257dc0753d6 f35 hz120 pq123 pq124 | first | omega | ((try (have i_t81 := Imp.go t81 (imp_a (rgz78.1) (rgz78.2) (f116)))); (try (have i_t40 := Imp.go t40 (f77))); omega) | ((try (have i_t82 := Imp.go t82 (by omega))); (try (have i_t81 := Imp.go t81 (by omega))); (try (have i_t40 := Imp.go t40 (by omega))); (try (have i_t39 := Imp.go t39 (by omega))); first | omega | ((try (have i_rp4 := Imp.go rp4 (by omega))); (try (have i_rp4 := Imp.go rp4 (by omega))); (try (have i_t39 := Imp.go t39 (by omega))); (try (have i_t40 := Imp.go t40 (by omega))); (try (have i_t81 := Imp.go t81 (by omega))); (try (have i_t82 := Imp.go t82 (by omega))); omega))) (show (V 6 6).toInt + z119.toInt = (V121 6 6).toInt from by first | exact om_662a1892167c xlp7_1 hz119 hz120 pq124 | first | omega | ((try (have i_t81 := Imp.go t81 (imp_a (rgz78.1) (rgz78.2) (f116)))); (try (have i_t40 := Imp.go t40 (f77))); omega) | ((try (have i_t82 := Imp.go t82 (by omega))); (try (have i_t81 := Imp.go t81 (by omega))); (try (have i_t40 := Imp.go t40 (by omega))); (try (have i_t39 := Imp.go t39 (by omega))); first | omega | ((try (have i_rp4 := Imp.go rp4 (by omega))); (try (have i_rp4 := Imp.go rp4 (by omega))); (try (have i_t39 := Imp.go t39 (by omega))); (try (have i_t40 := Imp.go t40 (by omega))); (try (have i_t81 := Imp.go t81 (by omega))); (try (have i_t82 := Imp.go t82 (by omega))); omega))) (fun k h => by by_cases c : (k : Int) < y5.toInt; exact xlp7_2 k c; have ek : k = y5.toInt.toNat := (by first | omega | ((try (have i_t81 := Imp.go t81 (imp_a (rgz78.1) (rgz78.2) (f116)))); (try (have i_t40 := Imp.go t40 (f77))); omega) | ((try (have i_t82 := Imp.go t82 (by omega))); (try (have i_t81 := Imp.go t81 (by omega))); (try (have i_t40 := Imp.go t40 (by omega))); (try (have i_t39 := Imp.go t39 (by omega))); first | omega | ((try (have i_rp4 := Imp.go rp4 (by omega))); (try (have i_rp4 := Imp.go rp4 (by omega))); (try (have i_t39 := Imp.go t39 (by omega))); (try (have i_t40 := Imp.go t40 (by omega))); (try (have i_t81 := Imp.go t81 (by omega))); (try (have i_t82 := Imp.go t82 (by omega))); omega))); rw [ek, ← er126]; exact hp128) (fun h => absurd h (by first | omega | ((try (have i_t81 := Imp.go t81 (imp_a (rgz78.1) (rgz78.2) (f116)))); (try (have i_t40 := Imp.go t40 (f77))); omega) | ((try (have i_t82 := Imp.go t82 (by omega))); (try (have i_t81 := Imp.go t81 (by omega))); (try (have i_t40 := Imp.go t40 (by omega))); (try (have i_t39 := Imp.go t39 (by omega))); first | omega | ((try (have i_rp4 := Imp.go rp4 (by omega))); (try (have i_rp4 := Imp.go rp4 (by omega))); (try (have i_t39 := Imp.go t39 (by omega))); (try (have i_t40 := Imp.go t40 (by omega))); (try (have i_t81 := Imp.go t81 (by omega))); (try (have i_t82 := Imp.go t82 (by omega))); omega)))) (by first | exact om_91b464413286 hn pq8 hz120 pq123 pq124 | first | omega | ((try (have i_t81 := Imp.go t81 (imp_a (rgz78.1) (rgz78.2) (f116)))); (try (have i_t40 := Imp.go t40 (f77))); omega) | ((try (have i_t82 := Imp.go t82 (by omega))); (try (have i_t81 := Imp.go t81 (by omega))); (try (have i_t40 := Imp.go t40 (by omega))); (try (have i_t39 := Imp.go t39 (by omega))); first | omega | ((try (have i_rp4 := Imp.go rp4 (by omega))); (try (have i_rp4 := Imp.go rp4 (by omega))); (try (have i_t39 := Imp.go t39 (by omega))); (try (have i_t40 := Imp.go t40 (by omega))); (try (have i_t81 := Imp.go t81 (by omega))); (try (have i_t82 := Imp.go t82 (by omega))); omega))) (agr.up (agr.tr agr.rf ajV6 (by decide) (by decide)) hV121 rfl) hMV121 hP hD hS (lv_sub hl [1, 0, 2] rfl)
            · skip
              have f129 : y5.toInt < 12 := b_nle (by decide) rfl c117
              refine lv_lload_n hx hb dX9_cutWord_51 rfl (lv_at hl 0 rfl) ?_
              refine lv_ldc2 (v := 37) hx hb hown (hg _ w245) dX9_cutWord_52 ?_
              refine lv_lmul hx hb dX9_cutWord_55 ?_
              refine lv_topl (fun w130 ew130 => ?_)
              refine lv_aload_n hx hb dX9_cutWord_56 rfl (lv_at hl 2 rfl) ?_
              refine va_get (D := D) (ci := 9) (v := .ref (ad 7)) (fs := (xfTape ad V6 L Z)) (C := RX9) (T := TX9) (N := 12) hx hb hg inX9 hown hK hP 6 xgTape rfl 0 (by decide) (hg _ w252) (fun _ h9 => h9) rfl dX9_cutWord_57 ?_
              refine lv_aload_n hx hb dX9_cutWord_60 rfl (lv_at hl 2 rfl) ?_
              refine va_get (D := D) (ci := 9) (v := .int (V6 6 6)) (fs := (xfTape ad V6 L Z)) (C := RX9) (T := TX9) (N := 12) hx hb hg inX9 hown hK hP 6 xgTape rfl 6 (by decide) (hg _ w259) (fun _ h9 => h9) rfl dX9_cutWord_61 ?_
              refine va_bald (D := D) (i := (V6 6 6)) hx hb hK hP 7 0 rfl rfl (i_in (a := ((V6 6 6)).toInt) rfl (by first | omega | ((try (have i_t81 := Imp.go t81 (imp_a (rgz78.1) (rgz78.2) (f116)))); (try (have i_t40 := Imp.go t40 (f77))); omega) | ((try (have i_t82 := Imp.go t82 (by omega))); (try (have i_t81 := Imp.go t81 (by omega))); (try (have i_t40 := Imp.go t40 (by omega))); (try (have i_t39 := Imp.go t39 (by omega))); first | omega | ((try (have i_rp4 := Imp.go rp4 (by omega))); (try (have i_rp4 := Imp.go rp4 (by omega))); (try (have i_t39 := Imp.go t39 (by omega))); (try (have i_t40 := Imp.go t40 (by omega))); (try (have i_t81 := Imp.go t81 (by omega))); (try (have i_t82 := Imp.go t82 (by omega))); omega)))) dX9_cutWord_64 ?_
              refine g_top (v := (V 10 (Int32.toNatClampNeg (V6 6 6)))) (ajV6 10 (Int32.toNatClampNeg (V6 6 6)) rfl) ?_
              refine gE_int (g_runS (As := [.int (V 10 (Int32.toNatClampNeg (V6 6 6)))]) (rest := [.long w130]) (wc := []) (tc := []) hx hb hml hown hg gw_self hP hD hK hS hA hnw hgk [] [] (by decide) rfl rfl (x_codeOf2 l D ks H.size (V 10 (Int32.toNatClampNeg (V6 6 6))) ) w246 w247 w157 w248 hdS_yX9_codeOf ⟨Nat.le_of_ble_eq_true rfl, Nat.le_of_ble_eq_true rfl⟩ rfl hl.1 rfl (Nat.le_of_ble_eq_true rfl) dX9_cutWord_65 ⟨Nat.le_of_ble_eq_true rfl, Nat.le_of_ble_eq_true rfl⟩) hP hD hK hS hA (fun z131 u132 H locs w133 hP hD hK hS => ?_)
              have t134 := w133
              have t134 : z131 = (if 48 ≤ ((V 10 (Int32.toNatClampNeg (V6 6 6)))).toInt ∧ ((V 10 (Int32.toNatClampNeg (V6 6 6)))).toInt ≤ 57 then (V 10 (Int32.toNatClampNeg (V6 6 6))) - 48 + 27 else (V 10 (Int32.toNatClampNeg (V6 6 6))) - 97 + 1) := t134
              refine lv_i2l hx hb dX9_cutWord_68 rfl ?_
              refine lv_topl (fun w135 ew135 => ?_)
              refine lv_ladd hx hb dX9_cutWord_69 ?_
              refine lv_topl (fun w136 ew136 => ?_)
              refine lv_goto (tgt := 74) hx hb dX9_cutWord_70 (by decide) ?_
              refine lv_lstore_n (lv' := [(2, .long w136), (1, .int y5), (0, .ref (ad 6))]) hx hb dX9_cutWord_74 rfl hl (by decide) rfl (fun ls hl => ?_)
              obtain ⟨z137, ez137⟩ : ∃ y : Int32, y = y5 + 1 := ⟨_, rfl⟩
              have hz137 : z137.toInt = y5.toInt + 1 := i_add ez137 rfl (by decide) (by (first | exact om_4464765f026c klp7_0.1 f129 | omega))
              refine lv_iinc (v := z137) (lv' := [(1, .int z137), (2, .long w136), (0, .ref (ad 6))]) hx hb dX9_cutWord_75 hl (k := 1) rfl (by rw [ez137]; rfl) (by decide) rfl (fun ls hl => ?_)
              refine lv_aload_n hx hb dX9_cutWord_78 rfl (lv_at hl 2 rfl) ?_
              refine lv_dup hx hb dX9_cutWord_79 rfl ?_
              refine va_get (D := D) (ci := 9) (v := .int (V6 6 6)) (fs := (xfTape ad V6 L Z)) (C := RX9) (T := TX9) (N := 12) hx hb hg inX9 hown hK hP 6 xgTape rfl 6 (by decide) (hg _ w259) (fun _ h9 => h9) rfl dX9_cutWord_80 ?_
              refine lv_iconst (v := 1) hx hb dX9_cutWord_83 (by decide) ?_
              refine lv_iadd hx hb dX9_cutWord_84 ?_
              refine lv_topi (fun z138 ez138 => ?_)
              have hz138 : z138.toInt = ((V6 6 6)).toInt + 1 := i_add ez138 rfl (by decide) (by (first | exact om_41955fcb6566 r1.2 r2.1 klp7_0.1 xlp7_1 f35 | omega))
              refine va_put (D := D) (ci := 9) (v := .int z138) (ty := tyX9 6) (fs := (xfTape ad V6 L Z)) (C := RX9) (T := TX9) (N := 12) hx hb hg inX9 tyX9 tyX9_ok nmX9 hown hK hP hD hS 6 xgTape rfl 6 (by decide) (hg _ w259) (fun _ h9 => h9) rfl (tyX9_ok 6 (by decide)) rfl rfl (Nat.le_of_ble_eq_true rfl) dX9_cutWord_85 (fun H locs hP hD hS => ?_)
              obtain ⟨V139, hV139⟩ : ∃ z, z = up2 V6 6 6 z138 := ⟨_, rfl⟩
              have ew140 : (xw ad kk V6 L Z).set 6 ((ad 6), .inr (9, (xfTape ad V6 L Z).set 6 (.int z138))) = xw ad kk V139 L Z := by rw [hV139]; exact xw_ss (by decide) rfl (xb_si (by decide))
              have hP : va_P D vwCl (xw ad kk V139 L Z) H := by rw [← ew140]; exact hP
              have hD : va_D A (xw ad kk V139 L Z) := by rw [← ew140]; exact hD
              have hMV139 : rgd bX V139 := hMV6.put hV139 (show 0 ≤ z138.toInt ∧ z138.toInt ≤ 4000 from by first | exact om_5bd73bff3568 r1.2 r2.1 klp7_0.1 xlp7_1 f35 hz138 | first | omega | ((try (have i_t81 := Imp.go t81 (imp_a (rgz78.1) (rgz78.2) (f116)))); (try (have i_t40 := Imp.go t40 (f77))); omega) | ((try (have i_t82 := Imp.go t82 (by omega))); (try (have i_t81 := Imp.go t81 (by omega))); (try (have i_t40 := Imp.go t40 (by omega))); (try (have i_t39 := Imp.go t39 (by omega))); first | omega | ((try (have i_rp4 := Imp.go rp4 (by omega))); (try (have i_rp4 := Imp.go rp4 (by omega))); (try (have i_t39 := Imp.go t39 (by omega))); (try (have i_t40 := Imp.go t40 (by omega))); (try (have i_t81 := Imp.go t81 (by omega))); (try (have i_t82 := Imp.go t82 (by omega))); omega)))
              have agV139 : agr [(6, 6)] [12, 14] V V139 := agV6.up hV139 rfl
              refine lv_goto (tgt := 4) hx hb dX9_cutWord_88 (by decide) ?_
              have pq141 : (V139 6 5).toInt = ((V 6 5)).toInt := congrArg Int32.toInt ((up2_k hV139 (by decide)).trans (ajV6 6 5 rfl))
              have pq142 : (V139 6 6).toInt = z138.toInt := congrArg Int32.toInt (up2_s hV139)
              have kz143 := i_clamp (x := (V6 6 6)) rfl (by first | exact om_fb56619e55db r2.1 klp7_0.1 xlp7_1 | first | omega | ((try (have i_t81 := Imp.go t81 (imp_a (rgz78.1) (rgz78.2) (f116)))); (try (have i_t40 := Imp.go t40 (f77))); omega) | ((try (have i_t82 := Imp.go t82 (by omega))); (try (have i_t81 := Imp.go t81 (by omega))); (try (have i_t40 := Imp.go t40 (by omega))); (try (have i_t39 := Imp.go t39 (by omega))); first | omega | ((try (have i_rp4 := Imp.go rp4 (by omega))); (try (have i_rp4 := Imp.go rp4 (by omega))); (try (have i_t39 := Imp.go t39 (by omega))); (try (have i_t40 := Imp.go t40 (by omega))); (try (have i_t81 := Imp.go t81 (by omega))); (try (have i_t82 := Imp.go t82 (by omega))); omega)))
              have ek145 : Int32.toNatClampNeg (V6 6 6) = gs + y5.toInt.toNat := by first | omega | ((try (have i_t81 := Imp.go t81 (imp_a (rgz78.1) (rgz78.2) (f116)))); (try (have i_t40 := Imp.go t40 (f77))); omega) | ((try (have i_t82 := Imp.go t82 (by omega))); (try (have i_t81 := Imp.go t81 (by omega))); (try (have i_t40 := Imp.go t40 (by omega))); (try (have i_t39 := Imp.go t39 (by omega))); first | omega | ((try (have i_rp4 := Imp.go rp4 (by omega))); (try (have i_rp4 := Imp.go rp4 (by omega))); (try (have i_t39 := Imp.go t39 (by omega))); (try (have i_t40 := Imp.go t40 (by omega))); (try (have i_t81 := Imp.go t81 (by omega))); (try (have i_t82 := Imp.go t82 (by omega))); omega))
              have er144 : (V 10 (Int32.toNatClampNeg (V6 6 6))) = V 10 (gs + y5.toInt.toNat) := by rw [ek145]
              have hp146 : isLD (V 10 (Int32.toNatClampNeg (V6 6 6))) := Or.inr (Imp.go t81 (by omega))
              have kz147 := i_clamp (x := (V6 6 6)) rfl (by first | exact om_eafa9039069c r9.1 | first | omega | ((try (have i_t81 := Imp.go t81 (imp_a (rgz78.1) (rgz78.2) (f116)))); (try (have i_t40 := Imp.go t40 (f77))); omega) | ((try (have i_t82 := Imp.go t82 (by omega))); (try (have i_t81 := Imp.go t81 (by omega))); (try (have i_t40 := Imp.go t40 (by omega))); (try (have i_t39 := Imp.go t39 (by omega))); first | omega | ((try (have i_rp4 := Imp.go rp4 (by omega))); (try (have i_rp4 := Imp.go rp4 (by omega))); (try (have i_t39 := Imp.go t39 (by omega))); (try (have i_t40 := Imp.go t40 (by omega))); (try (have i_t81 := Imp.go t81 (by omega))); (try (have i_t82 := Imp.go t82 (by omega))); omega)))
              have ek149 : Int32.toNatClampNeg (V6 6 6) = gs + y5.toInt.toNat := by first | exact om_c9d69e9747b1 ek145 | first | omega | ((try (have i_t81 := Imp.go t81 (imp_a (rgz78.1) (rgz78.2) (f116)))); (try (have i_t40 := Imp.go t40 (f77))); omega) | ((try (have i_t82 := Imp.go t82 (by omega))); (try (have i_t81 := Imp.go t81 (by omega))); (try (have i_t40 := Imp.go t40 (by omega))); (try (have i_t39 := Imp.go t39 (by omega))); first | omega | ((try (have i_rp4 := Imp.go rp4 (by omega))); (try (have i_rp4 := Imp.go rp4 (by omega))); (try (have i_t39 := Imp.go t39 (by omega))); (try (have i_t40 := Imp.go t40 (by omega))); (try (have i_t81 := Imp.go t81 (by omega))); (try (have i_t82 := Imp.go t82 (by omega))); omega))
              have er148 : (V 10 (Int32.toNatClampNeg (V6 6 6))) = V 10 (gs + y5.toInt.toNat) := by rw [ek149]
              have ez150 : z137.toInt.toNat = y5.toInt.toNat + 1 := by first | omega | ((try (have i_t81 := Imp.go t81 (imp_a (rgz78.1) (rgz78.2) (f116)))); (try (have i_t40 := Imp.go t40 (f77))); omega) | ((try (have i_t82 := Imp.go t82 (by omega))); (try (have i_t81 := Imp.go t81 (by omega))); (try (have i_t40 := Imp.go t40 (by omega))); (try (have i_t39 := Imp.go t39 (by omega))); first | omega | ((try (have i_rp4 := Imp.go rp4 (by omega))); (try (have i_rp4 := Imp.go rp4 (by omega))); (try (have i_t39 := Imp.go t39 (by omega))); (try (have i_t40 := Imp.go t40 (by omega))); (try (have i_t81 := Imp.go t81 (by omega))); (try (have i_t82 := Imp.go t82 (by omega))); omega))
              exact ihlp7 w136 z137 V139 H locs ls (by first | exact om_a88abdac34d9 rp3 xlp7_1 f129 hz137 kz143 ek145 | first | omega | ((try (have i_t81 := Imp.go t81 (imp_a (rgz78.1) (rgz78.2) (f116)))); (try (have i_t40 := Imp.go t40 (f77))); omega) | ((try (have i_t82 := Imp.go t82 (by omega))); (try (have i_t81 := Imp.go t81 (by omega))); (try (have i_t40 := Imp.go t40 (by omega))); (try (have i_t39 := Imp.go t39 (by omega))); first | omega | ((try (have i_rp4 := Imp.go rp4 (by omega))); (try (have i_rp4 := Imp.go rp4 (by omega))); (try (have i_t39 := Imp.go t39 (by omega))); (try (have i_t40 := Imp.go t40 (by omega))); (try (have i_t81 := Imp.go t81 (by omega))); (try (have i_t82 := Imp.go t82 (by omega))); omega))) (show (V139 6 6).toInt ≤ (V139 6 5).toInt from by first | exact om_1257dc0753d6 f35 hz138 pq141 pq142 | first | omega | ((try (have i_t81 := Imp.go t81 (imp_a (rgz78.1) (rgz78.2) (f116)))); (try (have i_t40 := Imp.go t40 (f77))); omega) | ((try (have i_t82 := Imp.go t82 (by omega))); (try (have i_t81 := Imp.go t81 (by omega))); (try (have i_t40 := Imp.go t40 (by omega))); (try (have i_t39 := Imp.go t39 (by omega))); first | omega | ((try (have i_rp4 := Imp.go rp4 (by omega))); (try (have i_rp4 := Imp.go rp4 (by omega))); (try (have i_t39 := Imp.go t39 (by omega))); (try (have i_t40 := Imp.go t40 (by omega))); (try (have i_t81 := Imp.go t81 (by omega))); (try (have i_t82 := Imp.go t82 (by omega))); omega))) (show (V 6 6).toInt + z137.toInt = (V139 6 6).toInt from by first | exact om_662a1892167c xlp7_1 hz137 hz138 pq142 | first | omega | ((try (have i_t81 := Imp.go t81 (imp_a (rgz78.1) (rgz78.2) (f116)))); (try (have i_t40 := Imp.go t40 (f77))); omega) | ((try (have i_t82 := Imp.go t82 (by omega))); (try (have i_t81 := Imp.go t81 (by omega))); (try (have i_t40 := Imp.go t40 (by omega))); (try (have i_t39 := Imp.go t39 (by omega))); first | omega | ((try (have i_rp4 := Imp.go rp4 (by omega))); (try (have i_rp4 := Imp.go rp4 (by omega))); (try (have i_t39 := Imp.go t39 (by omega))); (try (have i_t40 := Imp.go t40 (by omega))); (try (have i_t81 := Imp.go t81 (by omega))); (try (have i_t82 := Imp.go t82 (by omega))); omega))) (fun k h => by by_cases c : (k : Int) < y5.toInt; exact xlp7_2 k c; have ek : k = y5.toInt.toNat := (by first | omega | ((try (have i_t81 := Imp.go t81 (imp_a (rgz78.1) (rgz78.2) (f116)))); (try (have i_t40 := Imp.go t40 (f77))); omega) | ((try (have i_t82 := Imp.go t82 (by omega))); (try (have i_t81 := Imp.go t81 (by omega))); (try (have i_t40 := Imp.go t40 (by omega))); (try (have i_t39 := Imp.go t39 (by omega))); first | omega | ((try (have i_rp4 := Imp.go rp4 (by omega))); (try (have i_rp4 := Imp.go rp4 (by omega))); (try (have i_t39 := Imp.go t39 (by omega))); (try (have i_t40 := Imp.go t40 (by omega))); (try (have i_t81 := Imp.go t81 (by omega))); (try (have i_t82 := Imp.go t82 (by omega))); omega))); rw [ek, ← er144]; exact hp146) (fun h9 => by rw [ez150, wv_s, ← xlp7_3 (by first | omega | ((try (have i_t81 := Imp.go t81 (imp_a (rgz78.1) (rgz78.2) (f116)))); (try (have i_t40 := Imp.go t40 (f77))); omega) | ((try (have i_t82 := Imp.go t82 (by omega))); (try (have i_t81 := Imp.go t81 (by omega))); (try (have i_t40 := Imp.go t40 (by omega))); (try (have i_t39 := Imp.go t39 (by omega))); first | omega | ((try (have i_rp4 := Imp.go rp4 (by omega))); (try (have i_rp4 := Imp.go rp4 (by omega))); (try (have i_t39 := Imp.go t39 (by omega))); (try (have i_t40 := Imp.go t40 (by omega))); (try (have i_t81 := Imp.go t81 (by omega))); (try (have i_t82 := Imp.go t82 (by omega))); omega))), ← er148]; exact ew136.trans (by rw [ew130, ew135, t134]; rfl)) (by first | exact om_91b464413286 hn pq8 hz138 pq141 pq142 | first | omega | ((try (have i_t81 := Imp.go t81 (imp_a (rgz78.1) (rgz78.2) (f116)))); (try (have i_t40 := Imp.go t40 (f77))); omega) | ((try (have i_t82 := Imp.go t82 (by omega))); (try (have i_t81 := Imp.go t81 (by omega))); (try (have i_t40 := Imp.go t40 (by omega))); (try (have i_t39 := Imp.go t39 (by omega))); first | omega | ((try (have i_rp4 := Imp.go rp4 (by omega))); (try (have i_rp4 := Imp.go rp4 (by omega))); (try (have i_t39 := Imp.go t39 (by omega))); (try (have i_t40 := Imp.go t40 (by omega))); (try (have i_t81 := Imp.go t81 (by omega))); (try (have i_t82 := Imp.go t82 (by omega))); omega))) (agr.up (agr.tr agr.rf ajV6 (by decide) (by decide)) hV139 rfl) hMV139 hP hD hS (lv_sub hl [1, 0, 2] rfl)
  have r151 : Int32.toInt 0 = 0 := by decide
  exact lp7 (((V 6 5).toInt - (V 6 6).toInt + 1 : Int).toNat) 0 0 V H locs ls (by decide) (show (V 6 6).toInt ≤ (V 6 5).toInt from by first | exact om_122d4d21d372 rp1 | first | omega | ((try (have i_rp4 := Imp.go rp4 (by omega))); omega)) (show (V 6 6).toInt + (Int32.toInt 0) = (V 6 6).toInt from by first | exact om_85baa6bcbf4d r151 | first | omega | ((try (have i_rp4 := Imp.go rp4 (by omega))); omega)) (fun k h => absurd h (by have e0 : Int32.toInt 0 = 0 := (by decide); omega)) (fun _ => rfl) (by first | omega | ((try (have i_rp4 := Imp.go rp4 (by omega))); omega)) agr.rf hMV hP hD hS (lv_sub hl [0, 1, 2] rfl)
