/-! a BOOK is read -/
def tkOf (V : Vf) (L : Lf) : Tk := (fun j => (V 12 j).toInt, fun j => L 14 j, fun j => (V 13 j).toInt)
def St0 : St := (fun _ => 0, fun _ => [], [], [])
/-- all tokens are cut (the token at hand left out) -/
def CTx (V : Vf) (L : Lf) (W : Vf) (M : Lf) : Prop := CT V L W M ∧ (W 6 6).toInt = (V 6 5).toInt ∧ W 12 (W 6 7).toInt.toNat = 0 ∧ W 13 (W 6 7).toInt.toNat = V 6 5
theorem CT.ag {V A W : Vf} {L B M : Lf} (h : CT V L A B) (w7 : W 6 7 = A 6 7) (w6 : W 6 6 = A 6 6) (w12 : W 12 = A 12) (w13 : W 13 = A 13) (m14 : M 14 = B 14) : CT V L W M := h.fin w7 w6 (fun k _ => ⟨by rw [w12], by rw [w13], by rw [m14]⟩)
theorem CTx.ag {V A W : Vf} {L B M : Lf} (h : CTx V L A B) (w7 : W 6 7 = A 6 7) (w6 : W 6 6 = A 6 6) (w12 : W 12 = A 12) (w13 : W 13 = A 13) (m14 : M 14 = B 14) : CTx V L W M := ⟨h.1.ag w7 w6 w12 w13 m14, by rw [w6]; exact h.2.1, by rw [w12, w7]; exact h.2.2.1, by rw [w13, w7]; exact h.2.2.2⟩
theorem CT.an {V V' W : Vf} {L L' M : Lf} (h : CT V L W M) (e10 : V' 10 = V 10) (e5 : V' 6 5 = V 6 5) (e11 : L' 11 = L 11) : CT V' L' W M := by
  obtain ⟨S, E, k1, k2⟩ := h
  refine ⟨S, E, by rw [e10, e5]; exact k1, fun j hj => ?_⟩
  rw [e10]
  exact ⟨(k2 j hj).1, (k2 j hj).2.ex e11.symm⟩
theorem CTE.x {V V' W : Vf} {L L' M : Lf} (h : CTE V L W M) (e10 : V' 10 = V 10) (e5 : V' 6 5 = V 6 5) (e11 : L' 11 = L 11) : CTx V' L' W M := ⟨h.1.an e10 e5 e11, by rw [e5]; exact h.2.1, h.2.2.1, by rw [e5]; exact h.2.2.2.1⟩
theorem RelC.tk {V : Vf} {L : Lf} {b : Nat} {T : Tk} {s : St} (h : RelC V L b T s) : T = tkOf V L := by
  obtain ⟨a, c, d⟩ := T
  have h1 : a = fun j => (V 12 j).toInt := funext fun j => h.2.1.2.1 j
  have h2 : c = fun j => L 14 j := funext fun j => h.2.1.2.2.1 j
  have h3 : d = fun j => (V 13 j).toInt := funext fun j => h.2.1.2.2.2.1 j
  rw [h1, h2, h3]
  rfl
theorem RelC.z {V : Vf} {L : Lf} {b : Nat} (c : CUR V L 0) (e : V 12 (V 6 7).toInt.toNat = 0) (f : (V 1 3).toInt = 0) (n0 : (V 43 (5 * b + 0)).toInt = 0) (n1 : (V 43 (5 * b + 1)).toInt = 0) (n2 : (V 43 (5 * b + 2)).toInt = 0) (n3 : (V 43 (5 * b + 3)).toInt = 0) (n4 : (V 43 (5 * b + 4)).toInt = 0) (w : (V 41 b).toInt = 0) (o : (V 1 2).toInt < 0) : RelC V L b (tkOf V L) St0 := by
  refine ⟨c, ⟨by rw [e]; decide, fun _ => rfl, fun _ => rfl, fun _ => rfl, f⟩, fun j hj => ?_, ⟨by rw [w]; rfl, fun i h => absurd h (Nat.not_lt_zero _)⟩, fun q => absurd q (by omega)⟩
  have e : (V 43 (5 * b + j)).toInt = 0 := by
    rcases j with _ | _ | _ | _ | _ | j
    · exact n0
    · exact n1
    · exact n2
    · exact n3
    · exact n4
    · omega
  rw [e]
  exact ⟨rfl, fun i h => absurd h (Nat.not_lt_zero _)⟩
/-- how the reading of a BOOK ends -/
def BRES (T : Tk) (r : Int) (P : St → Prop) : Prop := (r = 0 ∧ ∃ s' : St, Rc T (Crun St0 [Istmt]) (Cdone s') ∧ P s') ∨ Rc T (Crun St0 [Istmt]) (Cbad r)


abbrev r_x_aroundsOf3 : Room := { frames := 0, cells := 0, slots := 0, locals := 0 }
abbrev q_x_aroundsOf3 (D : va_G) (ks : KS) (ad : Nat → Nat) (kk : Nat → ClassId) (V : Vf) (L : Lf) (Z : XZ) (p0 : Int32) (b : Nat) (gs : St) (gf : Nat) (A : Nat → Prop) : Array Value → State → Outcome → State → Prop := va_Qi (fun (r : Int32) (_ : Unit) => (r.toInt = ((arounds gs.2.2.1 gf : Nat) : Int))) (fun _ t => gq D A (xw ad kk V L Z) (xty kk Z) t) A
set_option maxHeartbeats 4000000 in
set_option maxRecDepth 100000 in
theorem x_aroundsOf3 (l : Launch) (D : va_G) (ks : KS) (sz : Nat) (ad : Nat → Nat) (kk : Nat → ClassId) (V : Vf) (L : Lf) (Z : XZ) (p0 : Int32) (b : Nat) (gs : St) (gf : Nat) (hMV : rgd bX V) (hb2 : b < 2) (gfe : p0.toInt = (gf : Int)) (wr : WRc V b gs)  : Met l yX0_aroundsOf (Cond.code yX0_aroundsOf cX0_aroundsOf 4 (some .int) :: GW) r_x_aroundsOf3 (va_Pc [.ref (ad (38 + b)), .int p0] (gp D ks (xw ad kk V L Z) (xty kk Z) sz)) (q_x_aroundsOf3 D ks ad kk V L Z p0 b gs gf (va_A (xw ad kk V L Z) sz)) 0 0 (va_A (xw ad kk V L Z) sz) := by
  refine g_met (q_x_aroundsOf3 D ks ad kk V L Z p0 b gs gf) (by decide) (Nat.le_of_ble_eq_true rfl) ?_
  intro p e s m below meth c A ls H locs hx hb hr hml hown hg hlocks hin hnw hgk hP hK hD hS hA hl
  have hown : s.vm.findClass RX0 = some m.cls := hown
  have hl : lv_has ls 4 [(0, .ref (ad (38 + b))), (1, .int p0)] := hl
  have hP : va_P D vwCl (xw ad kk V L Z) H := hP
  have hD : va_D A (xw ad kk V L Z) := hD
  have hK : va_K D vwCl (xty kk Z) s := hK
  refine lv_iconst (v := 0) hx hb dX0_aroundsOf_0 (by decide) ?_
  refine lv_istore_n (lv' := [(2, .int 0), (0, .ref (ad (38 + b))), (1, .int p0)]) hx hb dX0_aroundsOf_1 rfl hl (by decide) rfl (fun ls hl => ?_)
  refine lv_iconst (v := 0) hx hb dX0_aroundsOf_2 (by decide) ?_
  refine lv_istore_n (lv' := [(3, .int 0), (2, .int 0), (0, .ref (ad (38 + b))), (1, .int p0)]) hx hb dX0_aroundsOf_3 rfl hl (by decide) rfl (fun ls hl => ?_)
  have lp3 : ∀ (fulp3 : Nat) (y1 : Int32) (y2 : Int32) (H : Heap) (locs : List Loc) (ls : Array Slot), 0 ≤ y1.toInt ∧ y1.toInt ≤ 12 → 0 ≤ y2.toInt ∧ y2.toInt ≤ 12 → y2.toInt ≤ y1.toInt → y1.toInt ≤ (V 41 b).toInt → y2.toInt = ((arounds (gs.2.2.1.take y1.toInt.toNat) gf : Nat) : Int) → 12 - y1.toInt < (fulp3 : Int) → va_P D vwCl (xw ad kk V L Z) H → va_D A (xw ad kk V L Z) → va_S A s.heap H locs → lv_has ls 4 [(3, .int y1), (2, .int y2), (0, .ref (ad (38 + b))), (1, .int p0)] → W p l e r_x_aroundsOf3 s m ([.ref (ad (38 + b)), .int p0] : List Value).toArray below meth c H locs 0 0 (MQ below (q_x_aroundsOf3 D ks ad kk V L Z p0 b gs gf A) ([.ref (ad (38 + b)), .int p0] : List Value).toArray s 0 0 A) (F0 m 4 ls []) := by
    intro fulp3
    induction fulp3 with
    | zero =>
      intro y1 y2 H locs ls klp3_0 klp3_1 xlp3_0 xlp3_1 xlp3_2 hn  hP hD hS hl
      exfalso; omega
    | succ fulp3 ihlp3 =>
      intro y1 y2 H locs ls klp3_0 klp3_1 xlp3_0 xlp3_1 xlp3_2 hn  hP hD hS hl
      have r4 : 0 ≤ ((V 41 b)).toInt ∧ ((V 41 b)).toInt ≤ 12 := hMV 41 b
      refine lv_iload_n hx hb dX0_aroundsOf_4 rfl (lv_at hl 0 rfl) ?_
      refine lv_aload_n hx hb dX0_aroundsOf_5 rfl (lv_at hl 2 rfl) ?_
      refine va_get (D := D) (ci := 0) (v := .int (V 41 b)) (fs := (xfBook ad V b)) (C := RX0) (T := TX0) (N := 13) hx hb hg inX0 hown hK hP (38 + b) (xgBook hb2) rfl 11 (by decide) (hg _ w625) (fun _ h9 => h9) rfl dX0_aroundsOf_6 ?_
      refine lv_icmp_ge (tgt := 47) hx hb dX0_aroundsOf_9 (by decide) (fun c5 => ?_) (fun c5 => ?_)
      · skip
        have f6 : ((V 41 b)).toInt ≤ y1.toInt := b_le rfl rfl c5
        refine lv_iload_n hx hb dX0_aroundsOf_47 rfl (lv_at hl 1 rfl) ?_
        have as7 := WRc.all (i := y1.toInt.toNat) (f := gf) wr (by omega)
        exact W.iret (v := y2) hx hb hr (fun t ht hW => ⟨⟨y2, (), rfl, (show y2.toInt = ((arounds gs.2.2.1 gf : Nat) : Int) from by rw [← as7]; omega), by rw [ht]; exact hP, va_K.moved hW.alike hK, hD⟩, hS.F ht⟩) hS.2.2 dX0_aroundsOf_48
      · skip
        have f8 : y1.toInt < ((V 41 b)).toInt := b_nle rfl rfl c5
        refine lv_aload_n hx hb dX0_aroundsOf_12 rfl (lv_at hl 2 rfl) ?_
        refine va_get (D := D) (ci := 0) (v := .ref (ad (66 + b))) (fs := (xfBook ad V b)) (C := RX0) (T := TX0) (N := 13) hx hb hg inX0 hown hK hP (38 + b) (xgBook hb2) rfl 8 (by decide) (hg _ w619) (fun _ h9 => h9) rfl dX0_aroundsOf_13 ?_
        refine lv_iload_n hx hb dX0_aroundsOf_16 rfl (lv_at hl 0 rfl) ?_
        have il9 : b < 2 := by first | omega | ((try (have i_wr := Imp.go wr (by omega))); omega)
        refine va_aldq (D := D) (i := y1) hx hb hK hP (66 + b) (59 + b) (xgwrapsA il9) (xtwrapsA il9) (i_in (a := y1.toInt) rfl (by first | omega | ((try (have i_wr := Imp.go wr (by omega))); omega))) dX0_aroundsOf_17 ?_
        have kc10 := i_clamp (x := y1) rfl (by first | omega | ((try (have i_wr := Imp.go wr (by omega))); omega))
        refine g_topv (v := .ref (ad (312 + (12 * b + (Int32.toNatClampNeg y1))))) (congrArg va_rf (if_pos (by first | omega | ((try (have i_wr := Imp.go wr (by omega))); omega)))) ?_
        have il11 : (12 * b + (Int32.toNatClampNeg y1)) < 24 := by first | omega | ((try (have i_wr := Imp.go wr (by omega))); omega)
        refine va_getN (D := D) (ci := 10) (v := .int (V 65 (12 * b + (Int32.toNatClampNeg y1)))) (fs := (xfWrap V (12 * b + (Int32.toNatClampNeg y1)))) (C := RX10) (T := TX10) (N := 5) hx hb hg inX10 hown hK hP (312 + (12 * b + (Int32.toNatClampNeg y1))) (xgWrap il11) rfl 3 (by decide) (hnw.use 578 n578 rfl) (fun _ h9 => h9) rfl dX0_aroundsOf_18 ?_
        refine lv_iconst (v := 1) hx hb dX0_aroundsOf_21 (by decide) ?_
        refine lv_icmp_ne (tgt := 41) hx hb dX0_aroundsOf_22 (by decide) (fun c12 => ?_) (fun c12 => ?_)
        · skip
          have f13 : ((V 65 (12 * b + (Int32.toNatClampNeg y1)))).toInt ≠ 1 := b_neq rfl (by decide) c12
          obtain ⟨z14, ez14⟩ : ∃ y : Int32, y = y1 + 1 := ⟨_, rfl⟩
          have hz14 : z14.toInt = y1.toInt + 1 := i_add ez14 rfl (by decide) (by omega)
          refine lv_iinc (v := z14) (lv' := [(3, .int z14), (2, .int y2), (0, .ref (ad (38 + b))), (1, .int p0)]) hx hb dX0_aroundsOf_41 hl (k := 0) rfl (by rw [ez14]; rfl) (by decide) rfl (fun ls hl => ?_)
          refine lv_goto (tgt := 4) hx hb dX0_aroundsOf_44 (by decide) ?_
          have as15 := WRc.st (i := y1.toInt.toNat) (f := gf) wr (by omega)
          have kc16 := i_clamp (x := y1) rfl (by omega)
          have e9 : 12 * b + y1.toInt.toNat = 12 * b + Int32.toNatClampNeg y1 := rfl
          rw [e9] at as15
          rw [if_neg (fun q9 => by have q8 := q9.1; have q7 := q9.2; omega)] at as15
          exact ihlp3 z14 y2 H locs ls (by first | omega | ((try (have i_wr := Imp.go wr (by omega))); omega)) (by first | omega | ((try (have i_wr := Imp.go wr (by omega))); omega)) (show y2.toInt ≤ z14.toInt from by first | omega | ((try (have i_wr := Imp.go wr (by omega))); omega)) (show z14.toInt ≤ (V 41 b).toInt from by first | omega | ((try (have i_wr := Imp.go wr (by omega))); omega)) (show y2.toInt = ((arounds (gs.2.2.1.take z14.toInt.toNat) gf : Nat) : Int) from by rw [show z14.toInt.toNat = y1.toInt.toNat + 1 from by omega, as15]; omega) (by first | omega | ((try (have i_wr := Imp.go wr (by omega))); omega)) hP hD hS (lv_sub hl [0, 1, 2, 3] rfl)
        · skip
          have f17 : ((V 65 (12 * b + (Int32.toNatClampNeg y1)))).toInt = 1 := b_eq rfl (by decide) c12
          refine lv_aload_n hx hb dX0_aroundsOf_25 rfl (lv_at hl 2 rfl) ?_
          refine va_get (D := D) (ci := 0) (v := .ref (ad (66 + b))) (fs := (xfBook ad V b)) (C := RX0) (T := TX0) (N := 13) hx hb hg inX0 hown hK hP (38 + b) (xgBook hb2) rfl 8 (by decide) (hg _ w619) (fun _ h9 => h9) rfl dX0_aroundsOf_26 ?_
          refine lv_iload_n hx hb dX0_aroundsOf_29 rfl (lv_at hl 0 rfl) ?_
          refine va_aldq (D := D) (i := y1) hx hb hK hP (66 + b) (59 + b) (xgwrapsA il9) (xtwrapsA il9) (i_in (a := y1.toInt) rfl (by first | omega | ((try (have i_wr := Imp.go wr (by omega))); omega))) dX0_aroundsOf_30 ?_
          refine g_topv (v := .ref (ad (312 + (12 * b + (Int32.toNatClampNeg y1))))) (congrArg va_rf (if_pos (by first | omega | ((try (have i_wr := Imp.go wr (by omega))); omega)))) ?_
          refine va_getN (D := D) (ci := 10) (v := .int (V 63 (12 * b + (Int32.toNatClampNeg y1)))) (fs := (xfWrap V (12 * b + (Int32.toNatClampNeg y1)))) (C := RX10) (T := TX10) (N := 5) hx hb hg inX10 hown hK hP (312 + (12 * b + (Int32.toNatClampNeg y1))) (xgWrap il11) rfl 1 (by decide) (hnw.use 576 n576 rfl) (fun _ h9 => h9) rfl dX0_aroundsOf_31 ?_
          refine lv_iload_n hx hb dX0_aroundsOf_34 rfl (lv_at hl 3 rfl) ?_
          refine lv_icmp_ne (tgt := 41) hx hb dX0_aroundsOf_35 (by decide) (fun c18 => ?_) (fun c18 => ?_)
          · skip
            have f19 : ((V 63 (12 * b + (Int32.toNatClampNeg y1)))).toInt ≠ p0.toInt := b_neq rfl rfl c18
            obtain ⟨z20, ez20⟩ : ∃ y : Int32, y = y1 + 1 := ⟨_, rfl⟩
            have hz20 : z20.toInt = y1.toInt + 1 := i_add ez20 rfl (by decide) (by omega)
            refine lv_iinc (v := z20) (lv' := [(3, .int z20), (2, .int y2), (0, .ref (ad (38 + b))), (1, .int p0)]) hx hb dX0_aroundsOf_41 hl (k := 0) rfl (by rw [ez20]; rfl) (by decide) rfl (fun ls hl => ?_)
            refine lv_goto (tgt := 4) hx hb dX0_aroundsOf_44 (by decide) ?_
            have as21 := WRc.st (i := y1.toInt.toNat) (f := gf) wr (by omega)
            have kc22 := i_clamp (x := y1) rfl (by omega)
            have e9 : 12 * b + y1.toInt.toNat = 12 * b + Int32.toNatClampNeg y1 := rfl
            rw [e9] at as21
            rw [if_neg (fun q9 => by have q8 := q9.1; have q7 := q9.2; omega)] at as21
            exact ihlp3 z20 y2 H locs ls (by first | omega | ((try (have i_wr := Imp.go wr (by omega))); omega)) (by first | omega | ((try (have i_wr := Imp.go wr (by omega))); omega)) (show y2.toInt ≤ z20.toInt from by first | omega | ((try (have i_wr := Imp.go wr (by omega))); omega)) (show z20.toInt ≤ (V 41 b).toInt from by first | omega | ((try (have i_wr := Imp.go wr (by omega))); omega)) (show y2.toInt = ((arounds (gs.2.2.1.take z20.toInt.toNat) gf : Nat) : Int) from by rw [show z20.toInt.toNat = y1.toInt.toNat + 1 from by omega, as21]; omega) (by first | omega | ((try (have i_wr := Imp.go wr (by omega))); omega)) hP hD hS (lv_sub hl [0, 1, 2, 3] rfl)
          · skip
            have f23 : ((V 63 (12 * b + (Int32.toNatClampNeg y1)))).toInt = p0.toInt := b_eq rfl rfl c18
            obtain ⟨z24, ez24⟩ : ∃ y : Int32, y = y2 + 1 := ⟨_, rfl⟩
            have hz24 : z24.toInt = y2.toInt + 1 := i_add ez24 rfl (by decide) (by omega)
            refine lv_iinc (v := z24) (lv' := [(2, .int z24), (3, .int y1), (0, .ref (ad (38 + b))), (1, .int p0)]) hx hb dX0_aroundsOf_38 hl (k := 1) rfl (by rw [ez24]; rfl) (by decide) rfl (fun ls hl => ?_)
            obtain ⟨z25, ez25⟩ : ∃ y : Int32, y = y1 + 1 := ⟨_, rfl⟩
            have hz25 : z25.toInt = y1.toInt + 1 := i_add ez25 rfl (by decide) (by omega)
            refine lv_iinc (v := z25) (lv' := [(3, .int z25), (2, .int z24), (0, .ref (ad (38 + b))), (1, .int p0)]) hx hb dX0_aroundsOf_41 hl (k := 1) rfl (by rw [ez25]; rfl) (by decide) rfl (fun ls hl => ?_)
            refine lv_goto (tgt := 4) hx hb dX0_aroundsOf_44 (by decide) ?_
            have as26 := WRc.st (i := y1.toInt.toNat) (f := gf) wr (by omega)
            have kc27 := i_clamp (x := y1) rfl (by omega)
            have e9 : 12 * b + y1.toInt.toNat = 12 * b + Int32.toNatClampNeg y1 := rfl
            rw [e9] at as26
            rw [if_pos (show _ ∧ _ from ⟨by omega, by omega⟩)] at as26
            exact ihlp3 z25 z24 H locs ls (by first | omega | ((try (have i_wr := Imp.go wr (by omega))); omega)) (by first | omega | ((try (have i_wr := Imp.go wr (by omega))); omega)) (show z24.toInt ≤ z25.toInt from by first | omega | ((try (have i_wr := Imp.go wr (by omega))); omega)) (show z25.toInt ≤ (V 41 b).toInt from by first | omega | ((try (have i_wr := Imp.go wr (by omega))); omega)) (show z24.toInt = ((arounds (gs.2.2.1.take z25.toInt.toNat) gf : Nat) : Int) from by rw [show z25.toInt.toNat = y1.toInt.toNat + 1 from by omega, as26]; omega) (by first | omega | ((try (have i_wr := Imp.go wr (by omega))); omega)) hP hD hS (lv_sub hl [0, 1, 2, 3] rfl)
  have r28 : Int32.toInt 0 = 0 := by decide
  have r29 : 0 ≤ ((V 41 b)).toInt ∧ ((V 41 b)).toInt ≤ 12 := hMV 41 b
  exact lp3 ((12 - (Int32.toInt 0) + 1 : Int).toNat) 0 0 H locs ls (by decide) (by decide) (show (Int32.toInt 0) ≤ (Int32.toInt 0) from by first | omega | ((try (have i_wr := Imp.go wr (by omega))); omega)) (show (Int32.toInt 0) ≤ (V 41 b).toInt from by first | omega | ((try (have i_wr := Imp.go wr (by omega))); omega)) (show Int32.toInt 0 = ((arounds (gs.2.2.1.take (Int32.toInt 0).toNat) gf : Nat) : Int) from rfl) (by first | omega | ((try (have i_wr := Imp.go wr (by omega))); omega)) hP hD hS (lv_sub hl [0, 1, 2, 3] rfl)
abbrev r_x_addWrap3 : Room := { frames := 0, cells := 0, slots := 0, locals := 0 }
abbrev q_x_addWrap3 (D : va_G) (ks : KS) (ad : Nat → Nat) (kk : Nat → ClassId) (V : Vf) (L : Lf) (Z : XZ) (p0 : Int32) (p1 : Int32) (p2 : Int32) (p3 : Int32) (p4 : Int32) (b : Nat) (A : Nat → Prop) : Array Value → State → Outcome → State → Prop := va_Qv (fun (u : Vf × Lf) => rgd bX u.1 ∧ agr [] [41, 47, 62, 63, 64, 65, 66] V u.1 ∧ u.2 = L ∧ (Imp ((V 41 b).toInt < 12) ((u.1 41 b).toInt = (V 41 b).toInt + 1)) ∧ (Imp ((V 41 b).toInt < 12) (u.1 63 = upd (V 63) (12 * b + Int32.toNatClampNeg (V 41 b)) p1)) ∧ (Imp ((V 41 b).toInt < 12) (u.1 65 = upd (V 65) (12 * b + Int32.toNatClampNeg (V 41 b)) p3))) (fun u t => gq D A (xw ad kk u.1 u.2 Z) (xty kk Z) t) A
set_option maxHeartbeats 4000000 in
set_option maxRecDepth 100000 in
theorem x_addWrap3 (l : Launch) (D : va_G) (ks : KS) (sz : Nat) (ad : Nat → Nat) (kk : Nat → ClassId) (V : Vf) (L : Lf) (Z : XZ) (p0 : Int32) (p1 : Int32) (p2 : Int32) (p3 : Int32) (p4 : Int32) (b : Nat) (hMV : rgd bX V) (rg_p4 : 0 ≤ p4.toInt ∧ p4.toInt ≤ 8200) (hb2 : b < 2)  : Met l yX0_addWrap (Cond.code yX0_addWrap cX0_addWrap 8 none :: GW) r_x_addWrap3 (va_Pc [.ref (ad (38 + b)), .int p0, .int p1, .int p2, .int p3, .int p4] (gp D ks (xw ad kk V L Z) (xty kk Z) sz)) (q_x_addWrap3 D ks ad kk V L Z p0 p1 p2 p3 p4 b (va_A (xw ad kk V L Z) sz)) 0 0 (va_A (xw ad kk V L Z) sz) := by
  refine g_met (q_x_addWrap3 D ks ad kk V L Z p0 p1 p2 p3 p4 b) (by decide) (Nat.le_of_ble_eq_true rfl) ?_
  intro p e s m below meth c A ls H locs hx hb hr hml hown hg hlocks hin hnw hgk hP hK hD hS hA hl
  have hown : s.vm.findClass RX0 = some m.cls := hown
  have hl : lv_has ls 8 [(0, .ref (ad (38 + b))), (1, .int p0), (2, .int p1), (3, .int p2), (4, .int p3), (5, .int p4)] := hl
  have hP : va_P D vwCl (xw ad kk V L Z) H := hP
  have hD : va_D A (xw ad kk V L Z) := hD
  have hK : va_K D vwCl (xty kk Z) s := hK
  have agV : agr [] [41, 47, 62, 63, 64, 65, 66] V V := agr.rf
  refine lv_aload_n hx hb dX0_addWrap_0 rfl (lv_at hl 0 rfl) ?_
  refine va_get (D := D) (ci := 0) (v := .int (V 41 b)) (fs := (xfBook ad V b)) (C := RX0) (T := TX0) (N := 13) hx hb hg inX0 hown hK hP (38 + b) (xgBook hb2) rfl 11 (by decide) (hg _ w625) (fun _ h9 => h9) rfl dX0_addWrap_1 ?_
  have r1 : 0 ≤ ((V 41 b)).toInt ∧ ((V 41 b)).toInt ≤ 12 := hMV 41 b
  refine lv_bipush (v := 12) hx hb dX0_addWrap_4 (by decide) ?_
  refine lv_icmp_lt (tgt := 10) hx hb dX0_addWrap_6 (by decide) (fun c2 => ?_) (fun c2 => ?_)
  · skip
    have f3 : ((V 41 b)).toInt < 12 := b_lt rfl (by decide) c2
    refine lv_aload_n hx hb dX0_addWrap_10 rfl (lv_at hl 0 rfl) ?_
    refine va_get (D := D) (ci := 0) (v := .ref (ad (66 + b))) (fs := (xfBook ad V b)) (C := RX0) (T := TX0) (N := 13) hx hb hg inX0 hown hK hP (38 + b) (xgBook hb2) rfl 8 (by decide) (hg _ w619) (fun _ h9 => h9) rfl dX0_addWrap_11 ?_
    refine lv_aload_n hx hb dX0_addWrap_14 rfl (lv_at hl 0 rfl) ?_
    refine va_get (D := D) (ci := 0) (v := .int (V 41 b)) (fs := (xfBook ad V b)) (C := RX0) (T := TX0) (N := 13) hx hb hg inX0 hown hK hP (38 + b) (xgBook hb2) rfl 11 (by decide) (hg _ w625) (fun _ h9 => h9) rfl dX0_addWrap_15 ?_
    have il4 : b < 2 := by omega
    refine va_aldq (D := D) (i := (V 41 b)) hx hb hK hP (66 + b) (59 + b) (xgwrapsA il4) (xtwrapsA il4) (i_in (a := ((V 41 b)).toInt) rfl (by omega)) dX0_addWrap_18 ?_
    have kc5 := i_clamp (x := (V 41 b)) rfl (by omega)
    refine g_topv (v := .ref (ad (312 + (12 * b + (Int32.toNatClampNeg (V 41 b)))))) (congrArg va_rf (if_pos (by omega))) ?_
    have il6 : (12 * b + (Int32.toNatClampNeg (V 41 b))) < 24 := by omega
    refine lv_astore (lv' := [(6, .ref (ad (312 + (12 * b + (Int32.toNatClampNeg (V 41 b)))))), (0, .ref (ad (38 + b))), (1, .int p0), (2, .int p1), (3, .int p2), (4, .int p3), (5, .int p4)]) hx hb dX0_addWrap_19 hl (by decide) rfl (fun ls hl => ?_)
    refine lv_aload hx hb dX0_addWrap_21 (lv_at hl 0 rfl) ?_
    refine lv_iload_n hx hb dX0_addWrap_23 rfl (lv_at hl 2 rfl) ?_
    refine va_putN (D := D) (ci := 10) (v := .int p0) (ty := tyX10 0) (fs := (xfWrap V (12 * b + (Int32.toNatClampNeg (V 41 b))))) (C := RX10) (T := TX10) (N := 5) hx hb hg inX10 tyX10 tyX10_ok nmX10 hown hK hP hD hS (312 + (12 * b + (Int32.toNatClampNeg (V 41 b)))) (xgWrap il6) rfl 0 (by decide) (hnw.use 575 n575 rfl) (fun _ h9 => h9) rfl (tyX10_ok 0 (by decide)) rfl rfl (Nat.le_of_ble_eq_true rfl) dX0_addWrap_24 (fun H locs hP hD hS => ?_)
    obtain ⟨V7, hV7⟩ : ∃ z, z = up2 V 62 (12 * b + (Int32.toNatClampNeg (V 41 b))) p0 := ⟨_, rfl⟩
    have ew8 : (xw ad kk V L Z).set (312 + (12 * b + (Int32.toNatClampNeg (V 41 b)))) ((ad (312 + (12 * b + (Int32.toNatClampNeg (V 41 b))))), .inr (10, (xfWrap V (12 * b + (Int32.toNatClampNeg (V 41 b)))).set 0 (.int p0))) = xw ad kk V7 L Z := by rw [hV7]; exact xpWrap_type il6
    have hP : va_P D vwCl (xw ad kk V7 L Z) H := by rw [← ew8]; exact hP
    have hD : va_D A (xw ad kk V7 L Z) := by rw [← ew8]; exact hD
    have hMV7 : rgd bX V7 := hMV.put hV7 (i_full _)
    have agV7 : agr [] [41, 47, 62, 63, 64, 65, 66] V V7 := agV.up hV7 rfl
    refine lv_aload hx hb dX0_addWrap_27 (lv_at hl 0 rfl) ?_
    refine lv_iload_n hx hb dX0_addWrap_29 rfl (lv_at hl 3 rfl) ?_
    refine va_putN (D := D) (ci := 10) (v := .int p1) (ty := tyX10 1) (fs := (xfWrap V7 (12 * b + (Int32.toNatClampNeg (V 41 b))))) (C := RX10) (T := TX10) (N := 5) hx hb hg inX10 tyX10 tyX10_ok nmX10 hown hK hP hD hS (312 + (12 * b + (Int32.toNatClampNeg (V 41 b)))) (xgWrap il6) rfl 1 (by decide) (hnw.use 576 n576 rfl) (fun _ h9 => h9) rfl (tyX10_ok 1 (by decide)) rfl rfl (Nat.le_of_ble_eq_true rfl) dX0_addWrap_30 (fun H locs hP hD hS => ?_)
    obtain ⟨V9, hV9⟩ : ∃ z, z = up2 V7 63 (12 * b + (Int32.toNatClampNeg (V 41 b))) p1 := ⟨_, rfl⟩
    have ew10 : (xw ad kk V7 L Z).set (312 + (12 * b + (Int32.toNatClampNeg (V 41 b)))) ((ad (312 + (12 * b + (Int32.toNatClampNeg (V 41 b))))), .inr (10, (xfWrap V7 (12 * b + (Int32.toNatClampNeg (V 41 b)))).set 1 (.int p1))) = xw ad kk V9 L Z := by rw [hV9]; exact xpWrap_method il6
    have hP : va_P D vwCl (xw ad kk V9 L Z) H := by rw [← ew10]; exact hP
    have hD : va_D A (xw ad kk V9 L Z) := by rw [← ew10]; exact hD
    have hMV9 : rgd bX V9 := hMV7.put hV9 (i_full _)
    have agV9 : agr [] [41, 47, 62, 63, 64, 65, 66] V V9 := agV7.up hV9 rfl
    refine lv_aload hx hb dX0_addWrap_33 (lv_at hl 0 rfl) ?_
    refine lv_iload_n hx hb dX0_addWrap_35 rfl (lv_at hl 4 rfl) ?_
    refine va_putN (D := D) (ci := 10) (v := .int p2) (ty := tyX10 2) (fs := (xfWrap V9 (12 * b + (Int32.toNatClampNeg (V 41 b))))) (C := RX10) (T := TX10) (N := 5) hx hb hg inX10 tyX10 tyX10_ok nmX10 hown hK hP hD hS (312 + (12 * b + (Int32.toNatClampNeg (V 41 b)))) (xgWrap il6) rfl 2 (by decide) (hnw.use 577 n577 rfl) (fun _ h9 => h9) rfl (tyX10_ok 2 (by decide)) rfl rfl (Nat.le_of_ble_eq_true rfl) dX0_addWrap_36 (fun H locs hP hD hS => ?_)
    obtain ⟨V11, hV11⟩ : ∃ z, z = up2 V9 64 (12 * b + (Int32.toNatClampNeg (V 41 b))) p2 := ⟨_, rfl⟩
    have ew12 : (xw ad kk V9 L Z).set (312 + (12 * b + (Int32.toNatClampNeg (V 41 b)))) ((ad (312 + (12 * b + (Int32.toNatClampNeg (V 41 b))))), .inr (10, (xfWrap V9 (12 * b + (Int32.toNatClampNeg (V 41 b)))).set 2 (.int p2))) = xw ad kk V11 L Z := by rw [hV11]; exact xpWrap_number il6
    have hP : va_P D vwCl (xw ad kk V11 L Z) H := by rw [← ew12]; exact hP
    have hD : va_D A (xw ad kk V11 L Z) := by rw [← ew12]; exact hD
    have hMV11 : rgd bX V11 := hMV9.put hV11 (i_full _)
    have agV11 : agr [] [41, 47, 62, 63, 64, 65, 66] V V11 := agV9.up hV11 rfl
    refine lv_aload hx hb dX0_addWrap_39 (lv_at hl 0 rfl) ?_
    refine lv_iload hx hb dX0_addWrap_41 (lv_at hl 5 rfl) ?_
    refine va_putN (D := D) (ci := 10) (v := .int p3) (ty := tyX10 3) (fs := (xfWrap V11 (12 * b + (Int32.toNatClampNeg (V 41 b))))) (C := RX10) (T := TX10) (N := 5) hx hb hg inX10 tyX10 tyX10_ok nmX10 hown hK hP hD hS (312 + (12 * b + (Int32.toNatClampNeg (V 41 b)))) (xgWrap il6) rfl 3 (by decide) (hnw.use 578 n578 rfl) (fun _ h9 => h9) rfl (tyX10_ok 3 (by decide)) rfl rfl (Nat.le_of_ble_eq_true rfl) dX0_addWrap_43 (fun H locs hP hD hS => ?_)
    obtain ⟨V13, hV13⟩ : ∃ z, z = up2 V11 65 (12 * b + (Int32.toNatClampNeg (V 41 b))) p3 := ⟨_, rfl⟩
    have ew14 : (xw ad kk V11 L Z).set (312 + (12 * b + (Int32.toNatClampNeg (V 41 b)))) ((ad (312 + (12 * b + (Int32.toNatClampNeg (V 41 b))))), .inr (10, (xfWrap V11 (12 * b + (Int32.toNatClampNeg (V 41 b)))).set 3 (.int p3))) = xw ad kk V13 L Z := by rw [hV13]; exact xpWrap_phase il6
    have hP : va_P D vwCl (xw ad kk V13 L Z) H := by rw [← ew14]; exact hP
    have hD : va_D A (xw ad kk V13 L Z) := by rw [← ew14]; exact hD
    have hMV13 : rgd bX V13 := hMV11.put hV13 (i_full _)
    have agV13 : agr [] [41, 47, 62, 63, 64, 65, 66] V V13 := agV11.up hV13 rfl
    refine lv_aload hx hb dX0_addWrap_46 (lv_at hl 0 rfl) ?_
    refine lv_iload hx hb dX0_addWrap_48 (lv_at hl 6 rfl) ?_
    refine va_putN (D := D) (ci := 10) (v := .int p4) (ty := tyX10 4) (fs := (xfWrap V13 (12 * b + (Int32.toNatClampNeg (V 41 b))))) (C := RX10) (T := TX10) (N := 5) hx hb hg inX10 tyX10 tyX10_ok nmX10 hown hK hP hD hS (312 + (12 * b + (Int32.toNatClampNeg (V 41 b)))) (xgWrap il6) rfl 4 (by decide) (hnw.use 580 n580 rfl) (fun _ h9 => h9) rfl (tyX10_ok 4 (by decide)) rfl rfl (Nat.le_of_ble_eq_true rfl) dX0_addWrap_50 (fun H locs hP hD hS => ?_)
    obtain ⟨V15, hV15⟩ : ∃ z, z = up2 V13 66 (12 * b + (Int32.toNatClampNeg (V 41 b))) p4 := ⟨_, rfl⟩
    have ew16 : (xw ad kk V13 L Z).set (312 + (12 * b + (Int32.toNatClampNeg (V 41 b)))) ((ad (312 + (12 * b + (Int32.toNatClampNeg (V 41 b))))), .inr (10, (xfWrap V13 (12 * b + (Int32.toNatClampNeg (V 41 b)))).set 4 (.int p4))) = xw ad kk V15 L Z := by rw [hV15]; exact xpWrap_start il6
    have hP : va_P D vwCl (xw ad kk V15 L Z) H := by rw [← ew16]; exact hP
    have hD : va_D A (xw ad kk V15 L Z) := by rw [← ew16]; exact hD
    have hMV15 : rgd bX V15 := hMV13.put hV15 (show 0 ≤ p4.toInt ∧ p4.toInt ≤ 8200 from by omega)
    have agV15 : agr [] [41, 47, 62, 63, 64, 65, 66] V V15 := agV13.up hV15 rfl
    refine lv_aload_n hx hb dX0_addWrap_53 rfl (lv_at hl 1 rfl) ?_
    refine va_get (D := D) (ci := 0) (v := .int (V15 41 b)) (fs := (xfBook ad V15 b)) (C := RX0) (T := TX0) (N := 13) hx hb hg inX0 hown hK hP (38 + b) (xgBook hb2) rfl 11 (by decide) (hg _ w625) (fun _ h9 => h9) rfl dX0_addWrap_54 ?_
    refine g_top (v := (V 41 b)) ((up2_o hV15 (by decide)).trans ((up2_o hV13 (by decide)).trans ((up2_o hV11 (by decide)).trans ((up2_o hV9 (by decide)).trans (up2_o hV7 (by decide)))))) ?_
    refine lv_istore (lv' := [(7, .int (V 41 b)), (6, .ref (ad (312 + (12 * b + (Int32.toNatClampNeg (V 41 b)))))), (0, .ref (ad (38 + b))), (1, .int p0), (2, .int p1), (3, .int p2), (4, .int p3), (5, .int p4)]) hx hb dX0_addWrap_57 hl (by decide) rfl (fun ls hl => ?_)
    have lp19 : ∀ (fulp19 : Nat) (y17 : Int32) (V18 : Vf) (H : Heap) (locs : List Loc) (ls : Array Slot), 0 ≤ y17.toInt ∧ y17.toInt ≤ 11 → y17.toInt < (fulp19 : Int) → agr [] [47] V15 V18 → rgd bX V18 → va_P D vwCl (xw ad kk V18 L Z) H → va_D A (xw ad kk V18 L Z) → va_S A s.heap H locs → lv_has ls 8 [(7, .int y17), (6, .ref (ad (312 + (12 * b + (Int32.toNatClampNeg (V 41 b)))))), (0, .ref (ad (38 + b))), (1, .int p0), (2, .int p1), (3, .int p2), (4, .int p3), (5, .int p4)] → W p l e r_x_addWrap3 s m ([.ref (ad (38 + b)), .int p0, .int p1, .int p2, .int p3, .int p4] : List Value).toArray below meth c H locs 0 0 (MQ below (q_x_addWrap3 D ks ad kk V L Z p0 p1 p2 p3 p4 b A) ([.ref (ad (38 + b)), .int p0, .int p1, .int p2, .int p3, .int p4] : List Value).toArray s 0 0 A) (F0 m 59 ls []) := by
      intro fulp19
      induction fulp19 with
      | zero =>
        intro y17 V18 H locs ls klp19_0 hn ajV18 hMV18 hP hD hS hl
        exfalso; omega
      | succ fulp19 ihlp19 =>
        intro y17 V18 H locs ls klp19_0 hn ajV18 hMV18 hP hD hS hl
        have agV18 : agr [] [41, 47, 62, 63, 64, 65, 66] V V18 := agV15.tr ajV18 (by decide) (by decide)
        refine lv_iload hx hb dX0_addWrap_59 (lv_at hl 0 rfl) ?_
        refine lv_if_le (tgt := 107) hx hb dX0_addWrap_61 (by decide) (fun c20 => ?_) (fun c20 => ?_)
        · skip
          have f21 : y17.toInt ≤ 0 := b_le rfl (by decide) c20
          refine lv_aload_n hx hb dX0_addWrap_107 rfl (lv_at hl 2 rfl) ?_
          refine va_get (D := D) (ci := 0) (v := .ref (ad (68 + b))) (fs := (xfBook ad V18 b)) (C := RX0) (T := TX0) (N := 13) hx hb hg inX0 hown hK hP (38 + b) (xgBook hb2) rfl 9 (by decide) (hg _ w621) (fun _ h9 => h9) rfl dX0_addWrap_108 ?_
          refine lv_iload hx hb dX0_addWrap_111 (lv_at hl 0 rfl) ?_
          refine lv_aload_n hx hb dX0_addWrap_113 rfl (lv_at hl 2 rfl) ?_
          refine va_get (D := D) (ci := 0) (v := .int (V18 41 b)) (fs := (xfBook ad V18 b)) (C := RX0) (T := TX0) (N := 13) hx hb hg inX0 hown hK hP (38 + b) (xgBook hb2) rfl 11 (by decide) (hg _ w625) (fun _ h9 => h9) rfl dX0_addWrap_114 ?_
          refine g_top (v := (V 41 b)) ((ajV18 41 b rfl).trans ((up2_o hV15 (by decide)).trans ((up2_o hV13 (by decide)).trans ((up2_o hV11 (by decide)).trans ((up2_o hV9 (by decide)).trans (up2_o hV7 (by decide))))))) ?_
          have il22 : b < 2 := by omega
          refine va_iast (D := D) (i := y17) (x := (V 41 b)) hx hb hK hP hD hS (68 + b) (61 + b) (xgwrapOrder il22) (xtwrapOrder il22) (i_in (a := y17.toInt) rfl (by omega)) dX0_addWrap_117 (fun H locs hP hD hS => ?_)
          have kc23 := i_clamp (x := y17) rfl (by omega)
          have kl24 : (Int32.toNatClampNeg y17) < 12 := by omega
          obtain ⟨V25, hV25⟩ : ∃ z, z = up2 V18 47 (12 * b + (Int32.toNatClampNeg y17)) (V 41 b) := ⟨_, rfl⟩
          have ew26 : (xw ad kk V18 L Z).set (68 + b) ((ad (68 + b)), .inl ((kk (68 + b)), 12, .inl (upd (fun q => if q < 12 then V18 47 (12 * b + q) else 0) (Int32.toNatClampNeg y17) (V 41 b)))) = xw ad kk V25 L Z := by rw [hV25]; exact xpwrapOrder il22 kl24
          have hP : va_P D vwCl (xw ad kk V25 L Z) H := by rw [← ew26]; exact hP
          have hD : va_D A (xw ad kk V25 L Z) := by rw [← ew26]; exact hD
          have hMV25 : rgd bX V25 := hMV18.put hV25 (show 0 ≤ ((V 41 b)).toInt ∧ ((V 41 b)).toInt ≤ 11 from by omega)
          have agV25 : agr [] [41, 47, 62, 63, 64, 65, 66] V V25 := agV18.up hV25 rfl
          refine lv_aload_n hx hb dX0_addWrap_118 rfl (lv_at hl 2 rfl) ?_
          refine lv_dup hx hb dX0_addWrap_119 rfl ?_
          refine va_get (D := D) (ci := 0) (v := .int (V25 41 b)) (fs := (xfBook ad V25 b)) (C := RX0) (T := TX0) (N := 13) hx hb hg inX0 hown hK hP (38 + b) (xgBook hb2) rfl 11 (by decide) (hg _ w625) (fun _ h9 => h9) rfl dX0_addWrap_120 ?_
          refine g_top (v := (V 41 b)) ((up2_o hV25 (by decide)).trans ((ajV18 41 b rfl).trans ((up2_o hV15 (by decide)).trans ((up2_o hV13 (by decide)).trans ((up2_o hV11 (by decide)).trans ((up2_o hV9 (by decide)).trans (up2_o hV7 (by decide)))))))) ?_
          refine lv_iconst (v := 1) hx hb dX0_addWrap_123 (by decide) ?_
          refine lv_iadd hx hb dX0_addWrap_124 ?_
          refine lv_topi (fun z27 ez27 => ?_)
          have hz27 : z27.toInt = ((V 41 b)).toInt + 1 := i_add ez27 rfl (by decide) (by omega)
          refine va_put (D := D) (ci := 0) (v := .int z27) (ty := tyX0 11) (fs := (xfBook ad V25 b)) (C := RX0) (T := TX0) (N := 13) hx hb hg inX0 tyX0 tyX0_ok nmX0 hown hK hP hD hS (38 + b) (xgBook hb2) rfl 11 (by decide) (hg _ w625) (fun _ h9 => h9) rfl (tyX0_ok 11 (by decide)) rfl rfl (Nat.le_of_ble_eq_true rfl) dX0_addWrap_125 (fun H locs hP hD hS => ?_)
          obtain ⟨V28, hV28⟩ : ∃ z, z = up2 V25 41 b z27 := ⟨_, rfl⟩
          have ew29 : (xw ad kk V25 L Z).set (38 + b) ((ad (38 + b)), .inr (0, (xfBook ad V25 b).set 11 (.int z27))) = xw ad kk V28 L Z := by rw [hV28]; exact xpBook_wrapCount hb2
          have hP : va_P D vwCl (xw ad kk V28 L Z) H := by rw [← ew29]; exact hP
          have hD : va_D A (xw ad kk V28 L Z) := by rw [← ew29]; exact hD
          have hMV28 : rgd bX V28 := hMV25.put hV28 (show 0 ≤ z27.toInt ∧ z27.toInt ≤ 12 from by omega)
          have agV28 : agr [] [41, 47, 62, 63, 64, 65, 66] V V28 := agV25.up hV28 rfl
          have pq30 : (V28 41 b).toInt = z27.toInt := congrArg Int32.toInt (up2_s hV28)
          have rp31 : Imp ((V 41 b).toInt < 12) (V28 63 = upd (V 63) (12 * b + Int32.toNatClampNeg (V 41 b)) p1) := Imp.mk (fun _ => by rw [(by rw [(up2_fo hV28 (by decide) : V28 63 = V25 63), (up2_fo hV25 (by decide) : V25 63 = V18 63), (funext (fun q => ajV18 63 q rfl) : V18 63 = V15 63), (up2_fo hV15 (by decide) : V15 63 = V13 63), (up2_fo hV13 (by decide) : V13 63 = V11 63), (up2_fo hV11 (by decide) : V11 63 = V9 63)] : V28 63 = V9 63), up2_fn hV9, (by rw [(up2_fo hV7 (by decide) : V7 63 = V 63)] : V7 63 = V 63)])
          have rp32 : Imp ((V 41 b).toInt < 12) (V28 65 = upd (V 65) (12 * b + Int32.toNatClampNeg (V 41 b)) p3) := Imp.mk (fun _ => by rw [(by rw [(up2_fo hV28 (by decide) : V28 65 = V25 65), (up2_fo hV25 (by decide) : V25 65 = V18 65), (funext (fun q => ajV18 65 q rfl) : V18 65 = V15 65), (up2_fo hV15 (by decide) : V15 65 = V13 65)] : V28 65 = V13 65), up2_fn hV13, (by rw [(up2_fo hV11 (by decide) : V11 65 = V9 65), (up2_fo hV9 (by decide) : V9 65 = V7 65), (up2_fo hV7 (by decide) : V7 65 = V 65)] : V11 65 = V 65)])
          exact W.vret hx hb hr (fun t ht hW => ⟨⟨(V28, L), rfl, ⟨hMV28, agV28, rfl, (Imp.mk (fun hp => have hp : (V 41 b).toInt < 12 := hp; (show (V28 41 b).toInt = (V 41 b).toInt + 1 from by omega))), rp31, rp32⟩, by rw [ht]; exact hP, va_K.moved hW.alike hK, hD⟩, hS.F ht⟩) hS.2.2 dX0_addWrap_128
        · skip
          have f33 : 0 < y17.toInt := b_nle rfl (by decide) c20
          refine lv_aload_n hx hb dX0_addWrap_64 rfl (lv_at hl 2 rfl) ?_
          refine va_get (D := D) (ci := 0) (v := .ref (ad (66 + b))) (fs := (xfBook ad V18 b)) (C := RX0) (T := TX0) (N := 13) hx hb hg inX0 hown hK hP (38 + b) (xgBook hb2) rfl 8 (by decide) (hg _ w619) (fun _ h9 => h9) rfl dX0_addWrap_65 ?_
          refine lv_aload_n hx hb dX0_addWrap_68 rfl (lv_at hl 2 rfl) ?_
          refine va_get (D := D) (ci := 0) (v := .ref (ad (68 + b))) (fs := (xfBook ad V18 b)) (C := RX0) (T := TX0) (N := 13) hx hb hg inX0 hown hK hP (38 + b) (xgBook hb2) rfl 9 (by decide) (hg _ w621) (fun _ h9 => h9) rfl dX0_addWrap_69 ?_
          refine lv_iload hx hb dX0_addWrap_72 (lv_at hl 0 rfl) ?_
          refine lv_iconst (v := 1) hx hb dX0_addWrap_74 (by decide) ?_
          refine lv_isub hx hb dX0_addWrap_75 ?_
          refine lv_topi (fun z34 ez34 => ?_)
          have hz34 : z34.toInt = y17.toInt - 1 := i_sub ez34 rfl (by decide) (by omega)
          have il35 : b < 2 := by omega
          refine va_iald (D := D) (i := z34) hx hb hK hP (68 + b) (61 + b) (xgwrapOrder il35) (xtwrapOrder il35) (i_in (a := z34.toInt) rfl (by omega)) dX0_addWrap_76 ?_
          have kc36 := i_clamp (x := z34) rfl (by omega)
          refine g_top (v := V18 47 (12 * b + (Int32.toNatClampNeg z34))) (if_pos (by omega)) ?_
          have r37 : 0 ≤ ((V18 47 (12 * b + (Int32.toNatClampNeg z34)))).toInt ∧ ((V18 47 (12 * b + (Int32.toNatClampNeg z34)))).toInt ≤ 11 := hMV18 47 (12 * b + (Int32.toNatClampNeg z34))
          refine va_aldq (D := D) (i := (V18 47 (12 * b + (Int32.toNatClampNeg z34)))) hx hb hK hP (66 + b) (59 + b) (xgwrapsA il4) (xtwrapsA il4) (i_in (a := ((V18 47 (12 * b + (Int32.toNatClampNeg z34)))).toInt) rfl (by omega)) dX0_addWrap_77 ?_
          have kc38 := i_clamp (x := (V18 47 (12 * b + (Int32.toNatClampNeg z34)))) rfl (by omega)
          refine g_topv (v := .ref (ad (312 + (12 * b + (Int32.toNatClampNeg (V18 47 (12 * b + (Int32.toNatClampNeg z34)))))))) (congrArg va_rf (if_pos (by omega))) ?_
          have il39 : (12 * b + (Int32.toNatClampNeg (V18 47 (12 * b + (Int32.toNatClampNeg z34))))) < 24 := by omega
          refine va_getN (D := D) (ci := 10) (v := .int (V18 64 (12 * b + (Int32.toNatClampNeg (V18 47 (12 * b + (Int32.toNatClampNeg z34))))))) (fs := (xfWrap V18 (12 * b + (Int32.toNatClampNeg (V18 47 (12 * b + (Int32.toNatClampNeg z34))))))) (C := RX10) (T := TX10) (N := 5) hx hb hg inX10 hown hK hP (312 + (12 * b + (Int32.toNatClampNeg (V18 47 (12 * b + (Int32.toNatClampNeg z34)))))) (xgWrap il39) rfl 2 (by decide) (hnw.use 577 n577 rfl) (fun _ h9 => h9) rfl dX0_addWrap_78 ?_
          refine g_top (v := (V11 64 (12 * b + (Int32.toNatClampNeg (V18 47 (12 * b + (Int32.toNatClampNeg z34))))))) ((ajV18 64 (12 * b + (Int32.toNatClampNeg (V18 47 (12 * b + (Int32.toNatClampNeg z34))))) rfl).trans ((up2_o hV15 (by decide)).trans (up2_o hV13 (by decide)))) ?_
          refine lv_iload_n hx hb dX0_addWrap_81 rfl (lv_at hl 5 rfl) ?_
          refine lv_icmp_le (tgt := 107) hx hb dX0_addWrap_82 (by decide) (fun c40 => ?_) (fun c40 => ?_)
          · skip
            have f41 : ((V11 64 (12 * b + (Int32.toNatClampNeg (V18 47 (12 * b + (Int32.toNatClampNeg z34))))))).toInt ≤ p2.toInt := b_le rfl rfl c40
            refine lv_aload_n hx hb dX0_addWrap_107 rfl (lv_at hl 2 rfl) ?_
            refine va_get (D := D) (ci := 0) (v := .ref (ad (68 + b))) (fs := (xfBook ad V18 b)) (C := RX0) (T := TX0) (N := 13) hx hb hg inX0 hown hK hP (38 + b) (xgBook hb2) rfl 9 (by decide) (hg _ w621) (fun _ h9 => h9) rfl dX0_addWrap_108 ?_
            refine lv_iload hx hb dX0_addWrap_111 (lv_at hl 0 rfl) ?_
            refine lv_aload_n hx hb dX0_addWrap_113 rfl (lv_at hl 2 rfl) ?_
            refine va_get (D := D) (ci := 0) (v := .int (V18 41 b)) (fs := (xfBook ad V18 b)) (C := RX0) (T := TX0) (N := 13) hx hb hg inX0 hown hK hP (38 + b) (xgBook hb2) rfl 11 (by decide) (hg _ w625) (fun _ h9 => h9) rfl dX0_addWrap_114 ?_
            refine g_top (v := (V 41 b)) ((ajV18 41 b rfl).trans ((up2_o hV15 (by decide)).trans ((up2_o hV13 (by decide)).trans ((up2_o hV11 (by decide)).trans ((up2_o hV9 (by decide)).trans (up2_o hV7 (by decide))))))) ?_
            refine va_iast (D := D) (i := y17) (x := (V 41 b)) hx hb hK hP hD hS (68 + b) (61 + b) (xgwrapOrder il35) (xtwrapOrder il35) (i_in (a := y17.toInt) rfl (by omega)) dX0_addWrap_117 (fun H locs hP hD hS => ?_)
            have kc42 := i_clamp (x := y17) rfl (by omega)
            have kl43 : (Int32.toNatClampNeg y17) < 12 := by omega
            obtain ⟨V44, hV44⟩ : ∃ z, z = up2 V18 47 (12 * b + (Int32.toNatClampNeg y17)) (V 41 b) := ⟨_, rfl⟩
            have ew45 : (xw ad kk V18 L Z).set (68 + b) ((ad (68 + b)), .inl ((kk (68 + b)), 12, .inl (upd (fun q => if q < 12 then V18 47 (12 * b + q) else 0) (Int32.toNatClampNeg y17) (V 41 b)))) = xw ad kk V44 L Z := by rw [hV44]; exact xpwrapOrder il35 kl43
            have hP : va_P D vwCl (xw ad kk V44 L Z) H := by rw [← ew45]; exact hP
            have hD : va_D A (xw ad kk V44 L Z) := by rw [← ew45]; exact hD
            have hMV44 : rgd bX V44 := hMV18.put hV44 (show 0 ≤ ((V 41 b)).toInt ∧ ((V 41 b)).toInt ≤ 11 from by omega)
            have agV44 : agr [] [41, 47, 62, 63, 64, 65, 66] V V44 := agV18.up hV44 rfl
            refine lv_aload_n hx hb dX0_addWrap_118 rfl (lv_at hl 2 rfl) ?_
            refine lv_dup hx hb dX0_addWrap_119 rfl ?_
            refine va_get (D := D) (ci := 0) (v := .int (V44 41 b)) (fs := (xfBook ad V44 b)) (C := RX0) (T := TX0) (N := 13) hx hb hg inX0 hown hK hP (38 + b) (xgBook hb2) rfl 11 (by decide) (hg _ w625) (fun _ h9 => h9) rfl dX0_addWrap_120 ?_
            refine g_top (v := (V 41 b)) ((up2_o hV44 (by decide)).trans ((ajV18 41 b rfl).trans ((up2_o hV15 (by decide)).trans ((up2_o hV13 (by decide)).trans ((up2_o hV11 (by decide)).trans ((up2_o hV9 (by decide)).trans (up2_o hV7 (by decide)))))))) ?_
            refine lv_iconst (v := 1) hx hb dX0_addWrap_123 (by decide) ?_
            refine lv_iadd hx hb dX0_addWrap_124 ?_
            refine lv_topi (fun z46 ez46 => ?_)
            have hz46 : z46.toInt = ((V 41 b)).toInt + 1 := i_add ez46 rfl (by decide) (by omega)
            refine va_put (D := D) (ci := 0) (v := .int z46) (ty := tyX0 11) (fs := (xfBook ad V44 b)) (C := RX0) (T := TX0) (N := 13) hx hb hg inX0 tyX0 tyX0_ok nmX0 hown hK hP hD hS (38 + b) (xgBook hb2) rfl 11 (by decide) (hg _ w625) (fun _ h9 => h9) rfl (tyX0_ok 11 (by decide)) rfl rfl (Nat.le_of_ble_eq_true rfl) dX0_addWrap_125 (fun H locs hP hD hS => ?_)
            obtain ⟨V47, hV47⟩ : ∃ z, z = up2 V44 41 b z46 := ⟨_, rfl⟩
            have ew48 : (xw ad kk V44 L Z).set (38 + b) ((ad (38 + b)), .inr (0, (xfBook ad V44 b).set 11 (.int z46))) = xw ad kk V47 L Z := by rw [hV47]; exact xpBook_wrapCount hb2
            have hP : va_P D vwCl (xw ad kk V47 L Z) H := by rw [← ew48]; exact hP
            have hD : va_D A (xw ad kk V47 L Z) := by rw [← ew48]; exact hD
            have hMV47 : rgd bX V47 := hMV44.put hV47 (show 0 ≤ z46.toInt ∧ z46.toInt ≤ 12 from by omega)
            have agV47 : agr [] [41, 47, 62, 63, 64, 65, 66] V V47 := agV44.up hV47 rfl
            have pq49 : (V47 41 b).toInt = z46.toInt := congrArg Int32.toInt (up2_s hV47)
            have rp50 : Imp ((V 41 b).toInt < 12) (V47 63 = upd (V 63) (12 * b + Int32.toNatClampNeg (V 41 b)) p1) := Imp.mk (fun _ => by rw [(by rw [(up2_fo hV47 (by decide) : V47 63 = V44 63), (up2_fo hV44 (by decide) : V44 63 = V18 63), (funext (fun q => ajV18 63 q rfl) : V18 63 = V15 63), (up2_fo hV15 (by decide) : V15 63 = V13 63), (up2_fo hV13 (by decide) : V13 63 = V11 63), (up2_fo hV11 (by decide) : V11 63 = V9 63)] : V47 63 = V9 63), up2_fn hV9, (by rw [(up2_fo hV7 (by decide) : V7 63 = V 63)] : V7 63 = V 63)])
            have rp51 : Imp ((V 41 b).toInt < 12) (V47 65 = upd (V 65) (12 * b + Int32.toNatClampNeg (V 41 b)) p3) := Imp.mk (fun _ => by rw [(by rw [(up2_fo hV47 (by decide) : V47 65 = V44 65), (up2_fo hV44 (by decide) : V44 65 = V18 65), (funext (fun q => ajV18 65 q rfl) : V18 65 = V15 65), (up2_fo hV15 (by decide) : V15 65 = V13 65)] : V47 65 = V13 65), up2_fn hV13, (by rw [(up2_fo hV11 (by decide) : V11 65 = V9 65), (up2_fo hV9 (by decide) : V9 65 = V7 65), (up2_fo hV7 (by decide) : V7 65 = V 65)] : V11 65 = V 65)])
            exact W.vret hx hb hr (fun t ht hW => ⟨⟨(V47, L), rfl, ⟨hMV47, agV47, rfl, (Imp.mk (fun hp => have hp : (V 41 b).toInt < 12 := hp; (show (V47 41 b).toInt = (V 41 b).toInt + 1 from by omega))), rp50, rp51⟩, by rw [ht]; exact hP, va_K.moved hW.alike hK, hD⟩, hS.F ht⟩) hS.2.2 dX0_addWrap_128
          · skip
            have f52 : p2.toInt < ((V11 64 (12 * b + (Int32.toNatClampNeg (V18 47 (12 * b + (Int32.toNatClampNeg z34))))))).toInt := b_nle rfl rfl c40
            refine lv_aload_n hx hb dX0_addWrap_85 rfl (lv_at hl 2 rfl) ?_
            refine va_get (D := D) (ci := 0) (v := .ref (ad (68 + b))) (fs := (xfBook ad V18 b)) (C := RX0) (T := TX0) (N := 13) hx hb hg inX0 hown hK hP (38 + b) (xgBook hb2) rfl 9 (by decide) (hg _ w621) (fun _ h9 => h9) rfl dX0_addWrap_86 ?_
            refine lv_iload hx hb dX0_addWrap_89 (lv_at hl 0 rfl) ?_
            refine lv_aload_n hx hb dX0_addWrap_91 rfl (lv_at hl 2 rfl) ?_
            refine va_get (D := D) (ci := 0) (v := .ref (ad (68 + b))) (fs := (xfBook ad V18 b)) (C := RX0) (T := TX0) (N := 13) hx hb hg inX0 hown hK hP (38 + b) (xgBook hb2) rfl 9 (by decide) (hg _ w621) (fun _ h9 => h9) rfl dX0_addWrap_92 ?_
            refine lv_iload hx hb dX0_addWrap_95 (lv_at hl 0 rfl) ?_
            refine lv_iconst (v := 1) hx hb dX0_addWrap_97 (by decide) ?_
            refine lv_isub hx hb dX0_addWrap_98 ?_
            refine lv_topi (fun z53 ez53 => ?_)
            have hz53 : z53.toInt = y17.toInt - 1 := i_sub ez53 rfl (by decide) (by omega)
            refine va_iald (D := D) (i := z53) hx hb hK hP (68 + b) (61 + b) (xgwrapOrder il35) (xtwrapOrder il35) (i_in (a := z53.toInt) rfl (by omega)) dX0_addWrap_99 ?_
            have kc54 := i_clamp (x := z53) rfl (by omega)
            refine g_top (v := V18 47 (12 * b + (Int32.toNatClampNeg z53))) (if_pos (by omega)) ?_
            have r55 : 0 ≤ ((V18 47 (12 * b + (Int32.toNatClampNeg z53)))).toInt ∧ ((V18 47 (12 * b + (Int32.toNatClampNeg z53)))).toInt ≤ 11 := hMV18 47 (12 * b + (Int32.toNatClampNeg z53))
            refine va_iast (D := D) (i := y17) (x := (V18 47 (12 * b + (Int32.toNatClampNeg z53)))) hx hb hK hP hD hS (68 + b) (61 + b) (xgwrapOrder il35) (xtwrapOrder il35) (i_in (a := y17.toInt) rfl (by omega)) dX0_addWrap_100 (fun H locs hP hD hS => ?_)
            have kc56 := i_clamp (x := y17) rfl (by omega)
            have kl57 : (Int32.toNatClampNeg y17) < 12 := by omega
            obtain ⟨V58, hV58⟩ : ∃ z, z = up2 V18 47 (12 * b + (Int32.toNatClampNeg y17)) (V18 47 (12 * b + (Int32.toNatClampNeg z53))) := ⟨_, rfl⟩
            have ew59 : (xw ad kk V18 L Z).set (68 + b) ((ad (68 + b)), .inl ((kk (68 + b)), 12, .inl (upd (fun q => if q < 12 then V18 47 (12 * b + q) else 0) (Int32.toNatClampNeg y17) (V18 47 (12 * b + (Int32.toNatClampNeg z53)))))) = xw ad kk V58 L Z := by rw [hV58]; exact xpwrapOrder il35 kl57
            have hP : va_P D vwCl (xw ad kk V58 L Z) H := by rw [← ew59]; exact hP
            have hD : va_D A (xw ad kk V58 L Z) := by rw [← ew59]; exact hD
            have hMV58 : rgd bX V58 := hMV18.put hV58 (show 0 ≤ ((V18 47 (12 * b + (Int32.toNatClampNeg z53)))).toInt ∧ ((V18 47 (12 * b + (Int32.toNatClampNeg z53)))).toInt ≤ 11 from by omega)
            have agV58 : agr [] [41, 47, 62, 63, 64, 65, 66] V V58 := agV18.up hV58 rfl
            obtain ⟨z60, ez60⟩ : ∃ y : Int32, y = y17 + (-1) := ⟨_, rfl⟩
            have hz60 : z60.toInt = y17.toInt + (-1) := i_add ez60 rfl (by decide) (by omega)
            refine lv_iinc (v := z60) (lv' := [(7, .int z60), (6, .ref (ad (312 + (12 * b + (Int32.toNatClampNeg (V 41 b)))))), (0, .ref (ad (38 + b))), (1, .int p0), (2, .int p1), (3, .int p2), (4, .int p3), (5, .int p4)]) hx hb dX0_addWrap_101 hl (k := 0) rfl (by rw [ez60]; rfl) (by decide) rfl (fun ls hl => ?_)
            refine lv_goto (tgt := 59) hx hb dX0_addWrap_104 (by decide) ?_
            exact ihlp19 z60 V58 H locs ls (by omega) (by omega) (agr.up (agr.tr agr.rf ajV18 (by decide) (by decide)) hV58 rfl) hMV58 hP hD hS (lv_sub hl [0, 1, 2, 3, 4, 5, 6, 7] rfl)
    exact lp19 ((((V 41 b)).toInt + 1 : Int).toNat) (V 41 b) V15 H locs ls (by omega) (by omega) agr.rf hMV15 hP hD hS (lv_sub hl [0, 1, 2, 3, 4, 5, 6, 7] rfl)
  · skip
    have f61 : 12 ≤ ((V 41 b)).toInt := b_nlt rfl (by decide) c2
    exact W.vret hx hb hr (fun t ht hW => ⟨⟨(V, L), rfl, ⟨hMV, agV, rfl, (Imp.mk (fun hp => have hp : (V 41 b).toInt < 12 := hp; (show (V 41 b).toInt = (V 41 b).toInt + 1 from by omega))), (Imp.mk (fun hp => by exfalso; omega)), (Imp.mk (fun hp => by exfalso; omega))⟩, by rw [ht]; exact hP, va_K.moved hW.alike hK, hD⟩, hS.F ht⟩) hS.2.2 dX0_addWrap_9
abbrev r_x_readExtras3 : Room := { frames := 3, cells := 0, slots := 0, locals := 64 }
abbrev q_x_readExtras3 (D : va_G) (ks : KS) (ad : Nat → Nat) (kk : Nat → ClassId) (V : Vf) (L : Lf) (Z : XZ) (b : Nat) (gT : Tk) (gs : St) (gi : Nat) (A : Nat → Prop) : Array Value → State → Outcome → State → Prop := va_Qi (fun (r : Int32) (u : Vf × Lf) => rgd bX u.1 ∧ agr [(1, 3), (1, 6), (1, 8), (6, 8), (6, 9), (6, 10)] [43, 44, 52, 53, 54, 55] V u.1 ∧ agL [6, 44] L u.2 ∧ (0 ≤ r.toInt ∧ r.toInt ≤ 1) ∧ (Rd gT gs (fun k => Icalled :: Irank :: IwhenI :: k) (fun k => k) r.toInt (u.1 1 3).toInt (fun s9 => RelC u.1 u.2 b gT s9 ∧ keepS gs 0 s9))) (fun u t => gq D A (xw ad kk u.1 u.2 Z) (xty kk Z) t) A
set_option maxHeartbeats 4000000 in
set_option maxRecDepth 100000 in
theorem x_readExtras3 (l : Launch) (D : va_G) (ks : KS) (sz : Nat) (ad : Nat → Nat) (kk : Nat → ClassId) (V : Vf) (L : Lf) (Z : XZ) (b : Nat) (gT : Tk) (gs : St) (gi : Nat) (hMV : rgd bX V) (hb2 : b < 2) (rbk : (V 1 1).toInt = (b : Int)) (rel : RelC V L b gT gs) (hgi : gi < 48) (hgl : 24 * b ≤ gi) (hgh : gi < 24 * b + 24)  : Met l yX1_readExtras (Cond.code yX1_readExtras cX1_readExtras 2 (some .boolean) :: GW) r_x_readExtras3 (va_Pc [.ref (ad 1), .ref (ad (72 + gi))] (gp D ks (xw ad kk V L Z) (xty kk Z) sz)) (q_x_readExtras3 D ks ad kk V L Z  b gT gs gi (va_A (xw ad kk V L Z) sz)) 0 0 (va_A (xw ad kk V L Z) sz) := by
  refine g_met (q_x_readExtras3 D ks ad kk V L Z  b gT gs gi) (by decide) (Nat.le_of_ble_eq_true rfl) ?_
  intro p e s m below meth c A ls H locs hx hb hr hml hown hg hlocks hin hnw hgk hP hK hD hS hA hl
  have hown : s.vm.findClass RX1 = some m.cls := hown
  have hl : lv_has ls 2 [(0, .ref (ad 1)), (1, .ref (ad (72 + gi)))] := hl
  have hP : va_P D vwCl (xw ad kk V L Z) H := hP
  have hD : va_D A (xw ad kk V L Z) := hD
  have hK : va_K D vwCl (xty kk Z) s := hK
  have agV : agr [(1, 3), (1, 6), (1, 8), (6, 8), (6, 9), (6, 10)] [43, 44, 52, 53, 54, 55] V V := agr.rf
  have alL : agL [6, 44] L L := agL.rf
  have r1 : (-1) ≤ ((V 1 1)).toInt ∧ ((V 1 1)).toInt ≤ 1 := hMV 1 1
  refine lv_aload_n hx hb dX1_readExtras_0 rfl (lv_at hl 0 rfl) ?_
  refine va_get (D := D) (ci := 1) (v := .ref (ad 6)) (fs := (xfReader ad V L Z)) (C := RX1) (T := TX1) (N := 9) hx hb hg inX1 hown hK hP 1 xgReader rfl 0 (by decide) (hg _ w304) (fun _ h9 => h9) rfl dX1_readExtras_1 ?_
  refine va_getN (D := D) (ci := 9) (v := .int (V 6 9)) (fs := (xfTape ad V L Z)) (C := RX9) (T := TX9) (N := 12) hx hb hg inX9 hown hK hP 6 xgTape rfl 9 (by decide) (hnw.use 262 n262 rfl) (fun _ h9 => h9) rfl dX1_readExtras_4 ?_
  refine lv_sipush (v := 133) hx hb dX1_readExtras_7 (by decide) ?_
  refine lv_icmp_ne (tgt := 30) hx hb dX1_readExtras_10 (by decide) (fun c2 => ?_) (fun c2 => ?_)
  · skip
    have f3 : ((V 6 9)).toInt ≠ 133 := b_neq rfl (by decide) c2
    refine lv_aload_n hx hb dX1_readExtras_30 rfl (lv_at hl 0 rfl) ?_
    refine va_get (D := D) (ci := 1) (v := .ref (ad 6)) (fs := (xfReader ad V L Z)) (C := RX1) (T := TX1) (N := 9) hx hb hg inX1 hown hK hP 1 xgReader rfl 0 (by decide) (hg _ w304) (fun _ h9 => h9) rfl dX1_readExtras_31 ?_
    refine va_getN (D := D) (ci := 9) (v := .int (V 6 9)) (fs := (xfTape ad V L Z)) (C := RX9) (T := TX9) (N := 12) hx hb hg inX9 hown hK hP 6 xgTape rfl 9 (by decide) (hnw.use 262 n262 rfl) (fun _ h9 => h9) rfl dX1_readExtras_34 ?_
    refine lv_sipush (v := 134) hx hb dX1_readExtras_37 (by decide) ?_
    refine lv_icmp_ne (tgt := 70) hx hb dX1_readExtras_40 (by decide) (fun c4 => ?_) (fun c4 => ?_)
    · skip
      have f5 : ((V 6 9)).toInt ≠ 134 := b_neq rfl (by decide) c4
      refine lv_aload_n hx hb dX1_readExtras_70 rfl (lv_at hl 0 rfl) ?_
      refine va_get (D := D) (ci := 1) (v := .ref (ad 6)) (fs := (xfReader ad V L Z)) (C := RX1) (T := TX1) (N := 9) hx hb hg inX1 hown hK hP 1 xgReader rfl 0 (by decide) (hg _ w304) (fun _ h9 => h9) rfl dX1_readExtras_71 ?_
      refine va_getN (D := D) (ci := 9) (v := .int (V 6 9)) (fs := (xfTape ad V L Z)) (C := RX9) (T := TX9) (N := 12) hx hb hg inX9 hown hK hP 6 xgTape rfl 9 (by decide) (hnw.use 262 n262 rfl) (fun _ h9 => h9) rfl dX1_readExtras_74 ?_
      refine lv_sipush (v := 135) hx hb dX1_readExtras_77 (by decide) ?_
      refine lv_icmp_ne (tgt := 127) hx hb dX1_readExtras_80 (by decide) (fun c6 => ?_) (fun c6 => ?_)
      · skip
        have f7 : ((V 6 9)).toInt ≠ 135 := b_neq rfl (by decide) c6
        refine lv_iconst (v := 1) hx hb dX1_readExtras_127 (by decide) ?_
        have hr8 : ∀ k, Rc gT (Crun gs (Icalled :: Irank :: IwhenI :: k)) (Crun gs (Icalled :: Irank :: IwhenI :: k)) := fun k => Rc.rf
        have kd9 : gT.1 (gs.1 0) = ((V 6 9)).toInt := RelC.kd rel
        have hr10 : ∀ k, Rc gT (Crun gs (Icalled :: Irank :: IwhenI :: k)) (Crun gs (Irank :: IwhenI :: k)) := fun k => Rc.go1 (hr8 k) (called_n  (fun h9 => f3 (kd9.symm.trans h9)))
        have hr11 : ∀ k, Rc gT (Crun gs (Icalled :: Irank :: IwhenI :: k)) (Crun gs (IwhenI :: k)) := fun k => Rc.go1 (hr10 k) (rank_n  (fun h9 => f5 (kd9.symm.trans h9)))
        have hr12 : ∀ k, Rc gT (Crun gs (Icalled :: Irank :: IwhenI :: k)) (Crun gs (k)) := fun k => Rc.go1 (hr11 k) (when_n  (fun h9 => f7 (kd9.symm.trans h9)))
        exact W.zret (v := 1) hx hb hr rfl (fun t ht hW => ⟨⟨1, (V, L), rfl, ⟨hMV, agV, alL, (by decide), (Or.inl ⟨rfl, gs, hr12, rel, keepS.le (keepS.rf : keepS gs 0 gs) (by decide)⟩)⟩, by rw [ht]; exact hP, va_K.moved hW.alike hK, hD⟩, hS.F ht⟩) hS.2.2 dX1_readExtras_128
      · skip
        have f13 : ((V 6 9)).toInt = 135 := b_eq rfl (by decide) c6
        refine lv_aload_n hx hb dX1_readExtras_83 rfl (lv_at hl 0 rfl) ?_
        refine va_get (D := D) (ci := 1) (v := .ref (ad 6)) (fs := (xfReader ad V L Z)) (C := RX1) (T := TX1) (N := 9) hx hb hg inX1 hown hK hP 1 xgReader rfl 0 (by decide) (hg _ w304) (fun _ h9 => h9) rfl dX1_readExtras_84 ?_
        have hr14 : ∀ k, Rc gT (Crun gs (Icalled :: Irank :: IwhenI :: k)) (Crun gs (Icalled :: Irank :: IwhenI :: k)) := fun k => Rc.rf
        have kd15 : gT.1 (gs.1 0) = ((V 6 9)).toInt := RelC.kd rel
        have hr16 : ∀ k, Rc gT (Crun gs (Icalled :: Irank :: IwhenI :: k)) (Crun gs (Irank :: IwhenI :: k)) := fun k => Rc.go1 (hr14 k) (called_n  (fun h9 => absurd (h9.symm.trans (kd15.trans f13)) (by decide)))
        have hr17 : ∀ k, Rc gT (Crun gs (Icalled :: Irank :: IwhenI :: k)) (Crun gs (IwhenI :: k)) := fun k => Rc.go1 (hr16 k) (rank_n  (fun h9 => absurd (h9.symm.trans (kd15.trans f13)) (by decide)))
        have hr18 : ∀ k, Rc gT (Crun gs (Icalled :: Irank :: IwhenI :: k)) (Crun (nx gs 1) (Isetting :: Inum 0 999999999 :: k)) := fun k => Rc.go1 (hr17 k) (when_y  (kd15.trans f13))
        have l819 := RelC.l8 rel
        have r20 : 0 ≤ ((V 6 8)).toInt ∧ ((V 6 8)).toInt ≤ 4000 := hMV 6 8
        have r21 : 0 ≤ ((V 6 7)).toInt ∧ ((V 6 7)).toInt ≤ 4000 := hMV 6 7
        have lk22 := RelC.lk rel (show (V 6 9).toInt ≠ 0 from by omega)
        refine gA_void (gA_runV (As := []) (rest := []) (ci := 9) (q0 := 6) hx hb hml hown hg hP hD hK hS hA hnw hgk (x_next2 l D ks H.size ad kk V L Z  hMV (show (V 6 8).toInt ≤ (V 6 7).toInt from by omega)) w871 w852 w853 w157 w854 rfl xgTape hdV_yX9_next ⟨Nat.le_of_ble_eq_true rfl, Nat.le_of_ble_eq_true rfl⟩ rfl hl.1 rfl (Nat.le_of_ble_eq_true rfl) dX1_readExtras_87 ⟨Nat.le_of_ble_eq_true rfl, Nat.le_of_ble_eq_true rfl⟩) hP hD hK hS hA (fun u24 H locs w25 hP hD hK hS => ?_)
        obtain ⟨V28, L29⟩ := u24
        obtain ⟨hMV28, ajV28, axL29, t26, t27⟩ := w25
        have alL29 : agL [6, 44] L L29 := agL.tr alL axL29 (by decide)
        have hP : va_P D vwCl (xw ad kk V28 L29 Z) H := hP
        have hD : va_D A (xw ad kk V28 L29 Z) := hD
        have hMV28 : rgd bX V28 := hMV28
        have ajV28 : agr [(6, 8), (6, 9), (6, 10)] [] V V28 := ajV28
        have agV28 : agr [(1, 3), (1, 6), (1, 8), (6, 8), (6, 9), (6, 10)] [43, 44, 52, 53, 54, 55] V V28 := agV.tr ajV28 (by decide) (by decide)
        have t26 : (V28 6 8).toInt ≤ (V28 6 7).toInt := t26
        have t27 : CUR V28 L29 (Int32.toNatClampNeg (V 6 8)) := t27
        have r30 : 0 ≤ ((V28 6 8)).toInt ∧ ((V28 6 8)).toInt ≤ 4000 := hMV28 6 8
        have pq31 : (V28 6 7).toInt = ((V 6 7)).toInt := congrArg Int32.toInt (ajV28 6 7 rfl)
        have rl32 : RelC V28 L29 b gT (nx gs 1) := RelC.nx1 rel ajV28 (by decide) axL29 (by decide) (by rw [← lk22]; exact t27) (ajV28 1 3 rfl)
        refine lv_aload_n hx hb dX1_readExtras_90 rfl (lv_at hl 0 rfl) ?_
        have pq33 : (V28 1 1).toInt = ((V 1 1)).toInt := congrArg Int32.toInt (ajV28 1 1 rfl)
        refine gA_int (gA_runV (As := []) (rest := []) (ci := 1) (q0 := 1) hx hb hml hown hg hP hD hK hS hA hnw hgk (x_takeSetting3 l D ks H.size ad kk V28 L29 Z (b) (gT) ((nx gs 1)) hMV28 (show b < 2 from by omega) (show (V28 1 1).toInt = (b : Int) from by omega) rl32) w931 w933 w17 w162 w934 rfl xgReader hdV_yX1_takeSetting ⟨Nat.le_of_ble_eq_true rfl, Nat.le_of_ble_eq_true rfl⟩ rfl hl.1 rfl (Nat.le_of_ble_eq_true rfl) dX1_readExtras_91 ⟨Nat.le_of_ble_eq_true rfl, Nat.le_of_ble_eq_true rfl⟩) hP hD hK hS hA (fun z34 u35 H locs w36 hP hD hK hS => ?_)
        obtain ⟨V38, L39⟩ := u35
        obtain ⟨hMV38, ajV38, axL39, rgz34, t37⟩ := w36
        have alL39 : agL [6, 44] L L39 := agL.tr alL29 axL39 (by decide)
        have hP : va_P D vwCl (xw ad kk V38 L39 Z) H := hP
        have hD : va_D A (xw ad kk V38 L39 Z) := hD
        have hMV38 : rgd bX V38 := hMV38
        have ajV38 : agr [(1, 3), (1, 6), (6, 8), (6, 9), (6, 10)] [] V28 V38 := ajV38
        have agV38 : agr [(1, 3), (1, 6), (1, 8), (6, 8), (6, 9), (6, 10)] [43, 44, 52, 53, 54, 55] V V38 := agV28.tr ajV38 (by decide) (by decide)
        have rgz34 : 0 ≤ z34.toInt ∧ z34.toInt ≤ 1 := rgz34
        have t37 : KcN (look gT (nx gs 1) ((nx gs 1).2.1 1)) z34.toInt (V38 1 3).toInt (fun f9 => RelC V38 L39 b gT (nx (nx gs 1) 1) ∧ (V38 1 6).toInt = ((f9 : Nat) : Int) ∧ f9 < 12) := t37
        rcases t37 with ⟨q40, fx41, h42, rl43, hf44, hb45⟩ | ⟨q40, h42⟩
        · skip
          have hr46 : ∀ k, Rc gT (Crun gs (Icalled :: Irank :: IwhenI :: k)) (Crun (nx (nx gs 1) 1) (Inum 0 999999999 :: k)) := fun k => Rc.go1 (hr18 k) (se_y h42)
          refine lv_if_ne (tgt := 99) hx hb dX1_readExtras_94 (by decide) (fun c47 => ?_) (fun c47 => ?_)
          · skip
            have f48 : z34.toInt ≠ 0 := b_neq rfl (by decide) c47
            refine lv_aload_n hx hb dX1_readExtras_99 rfl (lv_at hl 1 rfl) ?_
            refine lv_aload_n hx hb dX1_readExtras_100 rfl (lv_at hl 0 rfl) ?_
            refine va_get (D := D) (ci := 1) (v := .int (V38 1 6)) (fs := (xfReader ad V38 L39 Z)) (C := RX1) (T := TX1) (N := 9) hx hb hg inX1 hown hK hP 1 xgReader rfl 6 (by decide) (hg _ w310) (fun _ h9 => h9) rfl dX1_readExtras_101 ?_
            have r49 : (-1) ≤ ((V38 1 6)).toInt ∧ ((V38 1 6)).toInt ≤ 23 := hMV38 1 6
            refine va_putN (D := D) (ci := 3) (v := .int (V38 1 6)) (ty := tyX3 9) (fs := (xfComp ad V38 gi)) (C := RX3) (T := TX3) (N := 13) hx hb hg inX3 tyX3 tyX3_ok nmX3 hown hK hP hD hS (72 + gi) (xgComp hgi) rfl 9 (by decide) (hnw.use 533 n533 rfl) (fun _ h9 => h9) rfl (tyX3_ok 9 (by decide)) rfl rfl (Nat.le_of_ble_eq_true rfl) dX1_readExtras_104 (fun H locs hP hD hS => ?_)
            obtain ⟨V50, hV50⟩ : ∃ z, z = up2 V38 54 gi (V38 1 6) := ⟨_, rfl⟩
            have ew51 : (xw ad kk V38 L39 Z).set (72 + gi) ((ad (72 + gi)), .inr (3, (xfComp ad V38 gi).set 9 (.int (V38 1 6)))) = xw ad kk V50 L39 Z := by rw [hV50]; exact xpComp_whenSetting hgi
            have hP : va_P D vwCl (xw ad kk V50 L39 Z) H := by rw [← ew51]; exact hP
            have hD : va_D A (xw ad kk V50 L39 Z) := by rw [← ew51]; exact hD
            have hMV50 : rgd bX V50 := hMV38.put hV50 (show (-1) ≤ ((V38 1 6)).toInt ∧ ((V38 1 6)).toInt ≤ 11 from by omega)
            have agV50 : agr [(1, 3), (1, 6), (1, 8), (6, 8), (6, 9), (6, 10)] [43, 44, 52, 53, 54, 55] V V50 := agV38.up hV50 rfl
            refine lv_aload_n hx hb dX1_readExtras_107 rfl (lv_at hl 0 rfl) ?_
            refine lv_iconst (v := 0) hx hb dX1_readExtras_108 (by decide) ?_
            refine lv_ldc (v := 999999999) hx hb hown (hg _ w905) dX1_readExtras_109 ?_
            have rl52 : RelC V50 L39 b gT (nx (nx gs 1) 1) := RelC.ag rl43 (show agr [] [54] V38 V50 from (agr.up agr.rf hV50 rfl)) (by decide) (show agL [] L39 L39 from agL.rf) (by decide)
            have r53 : Int32.toInt 0 = 0 := by decide
            have r54 : Int32.toInt 999999999 = 999999999 := by decide
            refine gA_int (gA_runV (As := [.int 0, .int 999999999]) (rest := []) (ci := 1) (q0 := 1) hx hb hml hown hg hP hD hK hS hA hnw hgk (x_takeNumber2 l D ks H.size ad kk V50 L39 Z 0 999999999 (((nx (nx gs 1) 1).1 0)) hMV50 (rl52).1 (rl52).2.1.1 (show 0 ≤ (Int32.toInt 0) from by omega) (show (Int32.toInt 999999999) ≤ 999999999 from by omega)) w906 w908 w12 w162 w909 rfl xgReader hdV_yX1_takeNumber ⟨Nat.le_of_ble_eq_true rfl, Nat.le_of_ble_eq_true rfl⟩ rfl hl.1 rfl (Nat.le_of_ble_eq_true rfl) dX1_readExtras_111 ⟨Nat.le_of_ble_eq_true rfl, Nat.le_of_ble_eq_true rfl⟩) hP hD hK hS hA (fun z55 u56 H locs w57 hP hD hK hS => ?_)
            obtain ⟨V61, L62⟩ := u56
            obtain ⟨hMV61, ajV61, axL62, rgz55, t58, t59, t60⟩ := w57
            have alL62 : agL [6, 44] L L62 := agL.tr alL39 axL62 (by decide)
            have hP : va_P D vwCl (xw ad kk V61 L62 Z) H := hP
            have hD : va_D A (xw ad kk V61 L62 Z) := hD
            have hMV61 : rgd bX V61 := hMV61
            have ajV61 : agr [(1, 3), (1, 8), (6, 8), (6, 9), (6, 10)] [] V50 V61 := ajV61
            have agV61 : agr [(1, 3), (1, 6), (1, 8), (6, 8), (6, 9), (6, 10)] [43, 44, 52, 53, 54, 55] V V61 := agV50.tr ajV61 (by decide) (by decide)
            have rgz55 : 0 ≤ z55.toInt ∧ z55.toInt ≤ 1 := rgz55
            have t58 : Imp (z55.toInt = 1) ((Int32.toInt 0) ≤ (V61 1 8).toInt ∧ (V61 1 8).toInt ≤ (Int32.toInt 999999999)) := t58
            have t59 : Imp (z55.toInt = 0) (1 ≤ (V61 1 3).toInt) := t59
            have t60 : (z55.toInt = 1 ∧ (V50 12 ((nx (nx gs 1) 1).1 0)).toInt = 2 ∧ (Int32.toInt 0) ≤ (L39 14 ((nx (nx gs 1) 1).1 0)).toInt ∧ (L39 14 ((nx (nx gs 1) 1).1 0)).toInt ≤ (Int32.toInt 999999999) ∧ CUR V61 L62 (((nx (nx gs 1) 1).1 0) + 1) ∧ (V61 1 8).toInt = (L39 14 ((nx (nx gs 1) 1).1 0)).toInt ∧ V61 1 3 = V50 1 3) ∨ (z55.toInt = 0 ∧ (((V50 12 ((nx (nx gs 1) 1).1 0)).toInt ≠ 2 ∧ (V61 1 3).toInt = 1 + 16 * (V50 13 ((nx (nx gs 1) 1).1 0)).toInt) ∨ ((V50 12 ((nx (nx gs 1) 1).1 0)).toInt = 2 ∧ ((L39 14 ((nx (nx gs 1) 1).1 0)).toInt < (Int32.toInt 0) ∨ (Int32.toInt 999999999) < (L39 14 ((nx (nx gs 1) 1).1 0)).toInt) ∧ (V61 1 3).toInt = 4 + 16 * (V50 13 ((nx (nx gs 1) 1).1 0)).toInt))) := t60
            have r63 : 0 ≤ ((V61 1 8)).toInt ∧ ((V61 1 8)).toInt ≤ 999999999 := hMV61 1 8
            have nv71 := congrArg Int64.toInt rl52.tok.2.1
            rcases t60 with ⟨q64, h65, h66, h67, k68, k69, k70⟩ | ⟨q64, ⟨h65, k68⟩ | ⟨h65, h66, k68⟩⟩
            · skip
              have rl72 : RelC V61 L62 b gT (nx (nx (nx gs 1) 1) 1) := RelC.nx1 rl52 ajV61 (by decide) axL62 (by decide) k68 k70
              have hr73 : ∀ k, Rc gT (Crun gs (Icalled :: Irank :: IwhenI :: k)) (Crun (nx (nx (nx gs 1) 1) 1) (k)) := fun k => Rc.go1 (hr46 k) (nm_y (rl52.tok.1.trans h65) (by omega) (by omega))
              refine lv_if_ne (tgt := 119) hx hb dX1_readExtras_114 (by decide) (fun c74 => ?_) (fun c74 => ?_)
              · skip
                have f75 : z55.toInt ≠ 0 := b_neq rfl (by decide) c74
                refine lv_aload_n hx hb dX1_readExtras_119 rfl (lv_at hl 1 rfl) ?_
                refine lv_aload_n hx hb dX1_readExtras_120 rfl (lv_at hl 0 rfl) ?_
                refine va_get (D := D) (ci := 1) (v := .int (V61 1 8)) (fs := (xfReader ad V61 L62 Z)) (C := RX1) (T := TX1) (N := 9) hx hb hg inX1 hown hK hP 1 xgReader rfl 8 (by decide) (hg _ w312) (fun _ h9 => h9) rfl dX1_readExtras_121 ?_
                refine va_putN (D := D) (ci := 3) (v := .int (V61 1 8)) (ty := tyX3 10) (fs := (xfComp ad V61 gi)) (C := RX3) (T := TX3) (N := 13) hx hb hg inX3 tyX3 tyX3_ok nmX3 hown hK hP hD hS (72 + gi) (xgComp hgi) rfl 10 (by decide) (hnw.use 536 n536 rfl) (fun _ h9 => h9) rfl (tyX3_ok 10 (by decide)) rfl rfl (Nat.le_of_ble_eq_true rfl) dX1_readExtras_124 (fun H locs hP hD hS => ?_)
                obtain ⟨V76, hV76⟩ : ∃ z, z = up2 V61 55 gi (V61 1 8) := ⟨_, rfl⟩
                have ew77 : (xw ad kk V61 L62 Z).set (72 + gi) ((ad (72 + gi)), .inr (3, (xfComp ad V61 gi).set 10 (.int (V61 1 8)))) = xw ad kk V76 L62 Z := by rw [hV76]; exact xpComp_whenValue hgi
                have hP : va_P D vwCl (xw ad kk V76 L62 Z) H := by rw [← ew77]; exact hP
                have hD : va_D A (xw ad kk V76 L62 Z) := by rw [← ew77]; exact hD
                have hMV76 : rgd bX V76 := hMV61.put hV76 (i_full _)
                have agV76 : agr [(1, 3), (1, 6), (1, 8), (6, 8), (6, 9), (6, 10)] [43, 44, 52, 53, 54, 55] V V76 := agV61.up hV76 rfl
                refine lv_iconst (v := 1) hx hb dX1_readExtras_127 (by decide) ?_
                have rl78 : RelC V76 L62 b gT (nx (nx (nx gs 1) 1) 1) := RelC.ag rl72 (show agr [] [55] V61 V76 from (agr.up agr.rf hV76 rfl)) (by decide) (show agL [] L62 L62 from agL.rf) (by decide)
                exact W.zret (v := 1) hx hb hr rfl (fun t ht hW => ⟨⟨1, (V76, L62), rfl, ⟨hMV76, agV76, alL62, (by decide), (Or.inl ⟨rfl, (nx (nx (nx gs 1) 1) 1), hr73, rl78, keepS.le (keepS.tr (keepS.tr (keepS.tr (keepS.rf : keepS gs 0 gs) (keepS.n1 1)) (keepS.n1 1)) (keepS.n1 1)) (by decide)⟩)⟩, by rw [ht]; exact hP, va_K.moved hW.alike hK, hD⟩, hS.F ht⟩) hS.2.2 dX1_readExtras_128
              · skip
                have f79 : z55.toInt = 0 := b_eq rfl (by decide) c74
                exfalso; first | omega | ((try (have i_t59 := Imp.go t59 (by omega))); (try (have i_t58 := Imp.go t58 (by omega))); (try (have i_t58 := Imp.go t58 (by omega))); (try (have i_t59 := Imp.go t59 (by omega))); omega)
            · skip
              have hb80 : ∀ k, Rc gT (Crun gs (Icalled :: Irank :: IwhenI :: k)) (Cbad (V61 1 3).toInt) := fun k => Rc.go1 (hr46 k) ((nm_1 (fun h9 => h65 (rl52.tok.1.symm.trans h9))).trans (fl_eq rl52.tok.2.2 k68))
              refine lv_if_ne (tgt := 119) hx hb dX1_readExtras_114 (by decide) (fun c81 => ?_) (fun c81 => ?_)
              · skip
                have f82 : z55.toInt ≠ 0 := b_neq rfl (by decide) c81
                exfalso; first | omega | ((try (have i_t59 := Imp.go t59 (by omega))); (try (have i_t58 := Imp.go t58 (by omega))); (try (have i_t58 := Imp.go t58 (by omega))); (try (have i_t59 := Imp.go t59 (by omega))); omega)
              · skip
                have f83 : z55.toInt = 0 := b_eq rfl (by decide) c81
                refine lv_iconst (v := 0) hx hb dX1_readExtras_117 (by decide) ?_
                exact W.zret (v := 0) hx hb hr rfl (fun t ht hW => ⟨⟨0, (V61, L62), rfl, ⟨hMV61, agV61, alL62, (by decide), (Or.inr ⟨rfl, hb80⟩)⟩, by rw [ht]; exact hP, va_K.moved hW.alike hK, hD⟩, hS.F ht⟩) hS.2.2 dX1_readExtras_118
            · skip
              have hb84 : ∀ k, Rc gT (Crun gs (Icalled :: Irank :: IwhenI :: k)) (Cbad (V61 1 3).toInt) := fun k => Rc.go1 (hr46 k) ((nm_4 (rl52.tok.1.trans h65) (by omega)).trans (fl_eq rl52.tok.2.2 k68))
              refine lv_if_ne (tgt := 119) hx hb dX1_readExtras_114 (by decide) (fun c85 => ?_) (fun c85 => ?_)
              · skip
                have f86 : z55.toInt ≠ 0 := b_neq rfl (by decide) c85
                exfalso; first | omega | ((try (have i_t59 := Imp.go t59 (by omega))); (try (have i_t58 := Imp.go t58 (by omega))); (try (have i_t58 := Imp.go t58 (by omega))); (try (have i_t59 := Imp.go t59 (by omega))); omega)
              · skip
                have f87 : z55.toInt = 0 := b_eq rfl (by decide) c85
                refine lv_iconst (v := 0) hx hb dX1_readExtras_117 (by decide) ?_
                exact W.zret (v := 0) hx hb hr rfl (fun t ht hW => ⟨⟨0, (V61, L62), rfl, ⟨hMV61, agV61, alL62, (by decide), (Or.inr ⟨rfl, hb84⟩)⟩, by rw [ht]; exact hP, va_K.moved hW.alike hK, hD⟩, hS.F ht⟩) hS.2.2 dX1_readExtras_118
          · skip
            have f88 : z34.toInt = 0 := b_eq rfl (by decide) c47
            exfalso; omega
        · skip
          have hb89 : ∀ k, Rc gT (Crun gs (Icalled :: Irank :: IwhenI :: k)) (Cbad (V38 1 3).toInt) := fun k => Rc.go1 (hr18 k) (se_b h42)
          refine lv_if_ne (tgt := 99) hx hb dX1_readExtras_94 (by decide) (fun c90 => ?_) (fun c90 => ?_)
          · skip
            have f91 : z34.toInt ≠ 0 := b_neq rfl (by decide) c90
            exfalso; omega
          · skip
            have f92 : z34.toInt = 0 := b_eq rfl (by decide) c90
            refine lv_iconst (v := 0) hx hb dX1_readExtras_97 (by decide) ?_
            exact W.zret (v := 0) hx hb hr rfl (fun t ht hW => ⟨⟨0, (V38, L39), rfl, ⟨hMV38, agV38, alL39, (by decide), (Or.inr ⟨rfl, hb89⟩)⟩, by rw [ht]; exact hP, va_K.moved hW.alike hK, hD⟩, hS.F ht⟩) hS.2.2 dX1_readExtras_98
    · skip
      have f93 : ((V 6 9)).toInt = 134 := b_eq rfl (by decide) c4
      refine lv_aload_n hx hb dX1_readExtras_43 rfl (lv_at hl 0 rfl) ?_
      refine va_get (D := D) (ci := 1) (v := .ref (ad 6)) (fs := (xfReader ad V L Z)) (C := RX1) (T := TX1) (N := 9) hx hb hg inX1 hown hK hP 1 xgReader rfl 0 (by decide) (hg _ w304) (fun _ h9 => h9) rfl dX1_readExtras_44 ?_
      have hr94 : ∀ k, Rc gT (Crun gs (Icalled :: Irank :: IwhenI :: k)) (Crun gs (Icalled :: Irank :: IwhenI :: k)) := fun k => Rc.rf
      have kd95 : gT.1 (gs.1 0) = ((V 6 9)).toInt := RelC.kd rel
      have hr96 : ∀ k, Rc gT (Crun gs (Icalled :: Irank :: IwhenI :: k)) (Crun gs (Irank :: IwhenI :: k)) := fun k => Rc.go1 (hr94 k) (called_n  (fun h9 => absurd (h9.symm.trans (kd95.trans f93)) (by decide)))
      have hr97 : ∀ k, Rc gT (Crun gs (Icalled :: Irank :: IwhenI :: k)) (Crun (nx gs 1) (Inum 0 9 :: IwhenI :: k)) := fun k => Rc.go1 (hr96 k) (rank_y  (kd95.trans f93))
      have l898 := RelC.l8 rel
      have r99 : 0 ≤ ((V 6 8)).toInt ∧ ((V 6 8)).toInt ≤ 4000 := hMV 6 8
      have r100 : 0 ≤ ((V 6 7)).toInt ∧ ((V 6 7)).toInt ≤ 4000 := hMV 6 7
      have lk101 := RelC.lk rel (show (V 6 9).toInt ≠ 0 from by omega)
      refine gA_void (gA_runV (As := []) (rest := []) (ci := 9) (q0 := 6) hx hb hml hown hg hP hD hK hS hA hnw hgk (x_next2 l D ks H.size ad kk V L Z  hMV (show (V 6 8).toInt ≤ (V 6 7).toInt from by omega)) w871 w852 w853 w157 w854 rfl xgTape hdV_yX9_next ⟨Nat.le_of_ble_eq_true rfl, Nat.le_of_ble_eq_true rfl⟩ rfl hl.1 rfl (Nat.le_of_ble_eq_true rfl) dX1_readExtras_47 ⟨Nat.le_of_ble_eq_true rfl, Nat.le_of_ble_eq_true rfl⟩) hP hD hK hS hA (fun u103 H locs w104 hP hD hK hS => ?_)
      obtain ⟨V107, L108⟩ := u103
      obtain ⟨hMV107, ajV107, axL108, t105, t106⟩ := w104
      have alL108 : agL [6, 44] L L108 := agL.tr alL axL108 (by decide)
      have hP : va_P D vwCl (xw ad kk V107 L108 Z) H := hP
      have hD : va_D A (xw ad kk V107 L108 Z) := hD
      have hMV107 : rgd bX V107 := hMV107
      have ajV107 : agr [(6, 8), (6, 9), (6, 10)] [] V V107 := ajV107
      have agV107 : agr [(1, 3), (1, 6), (1, 8), (6, 8), (6, 9), (6, 10)] [43, 44, 52, 53, 54, 55] V V107 := agV.tr ajV107 (by decide) (by decide)
      have t105 : (V107 6 8).toInt ≤ (V107 6 7).toInt := t105
      have t106 : CUR V107 L108 (Int32.toNatClampNeg (V 6 8)) := t106
      have r109 : 0 ≤ ((V107 6 8)).toInt ∧ ((V107 6 8)).toInt ≤ 4000 := hMV107 6 8
      have pq110 : (V107 6 7).toInt = ((V 6 7)).toInt := congrArg Int32.toInt (ajV107 6 7 rfl)
      have rl111 : RelC V107 L108 b gT (nx gs 1) := RelC.nx1 rel ajV107 (by decide) axL108 (by decide) (by rw [← lk101]; exact t106) (ajV107 1 3 rfl)
      refine lv_aload_n hx hb dX1_readExtras_50 rfl (lv_at hl 0 rfl) ?_
      refine lv_iconst (v := 0) hx hb dX1_readExtras_51 (by decide) ?_
      refine lv_bipush (v := 9) hx hb dX1_readExtras_52 (by decide) ?_
      have r112 : Int32.toInt 0 = 0 := by decide
      have r113 : Int32.toInt 9 = 9 := by decide
      refine gA_int (gA_runV (As := [.int 0, .int 9]) (rest := []) (ci := 1) (q0 := 1) hx hb hml hown hg hP hD hK hS hA hnw hgk (x_takeNumber2 l D ks H.size ad kk V107 L108 Z 0 9 (((nx gs 1).1 0)) hMV107 (rl111).1 (rl111).2.1.1 (show 0 ≤ (Int32.toInt 0) from by omega) (show (Int32.toInt 9) ≤ 999999999 from by omega)) w906 w908 w12 w162 w909 rfl xgReader hdV_yX1_takeNumber ⟨Nat.le_of_ble_eq_true rfl, Nat.le_of_ble_eq_true rfl⟩ rfl hl.1 rfl (Nat.le_of_ble_eq_true rfl) dX1_readExtras_54 ⟨Nat.le_of_ble_eq_true rfl, Nat.le_of_ble_eq_true rfl⟩) hP hD hK hS hA (fun z114 u115 H locs w116 hP hD hK hS => ?_)
      obtain ⟨V120, L121⟩ := u115
      obtain ⟨hMV120, ajV120, axL121, rgz114, t117, t118, t119⟩ := w116
      have alL121 : agL [6, 44] L L121 := agL.tr alL108 axL121 (by decide)
      have hP : va_P D vwCl (xw ad kk V120 L121 Z) H := hP
      have hD : va_D A (xw ad kk V120 L121 Z) := hD
      have hMV120 : rgd bX V120 := hMV120
      have ajV120 : agr [(1, 3), (1, 8), (6, 8), (6, 9), (6, 10)] [] V107 V120 := ajV120
      have agV120 : agr [(1, 3), (1, 6), (1, 8), (6, 8), (6, 9), (6, 10)] [43, 44, 52, 53, 54, 55] V V120 := agV107.tr ajV120 (by decide) (by decide)
      have rgz114 : 0 ≤ z114.toInt ∧ z114.toInt ≤ 1 := rgz114
      have t117 : Imp (z114.toInt = 1) ((Int32.toInt 0) ≤ (V120 1 8).toInt ∧ (V120 1 8).toInt ≤ (Int32.toInt 9)) := t117
      have t118 : Imp (z114.toInt = 0) (1 ≤ (V120 1 3).toInt) := t118
      have t119 : (z114.toInt = 1 ∧ (V107 12 ((nx gs 1).1 0)).toInt = 2 ∧ (Int32.toInt 0) ≤ (L108 14 ((nx gs 1).1 0)).toInt ∧ (L108 14 ((nx gs 1).1 0)).toInt ≤ (Int32.toInt 9) ∧ CUR V120 L121 (((nx gs 1).1 0) + 1) ∧ (V120 1 8).toInt = (L108 14 ((nx gs 1).1 0)).toInt ∧ V120 1 3 = V107 1 3) ∨ (z114.toInt = 0 ∧ (((V107 12 ((nx gs 1).1 0)).toInt ≠ 2 ∧ (V120 1 3).toInt = 1 + 16 * (V107 13 ((nx gs 1).1 0)).toInt) ∨ ((V107 12 ((nx gs 1).1 0)).toInt = 2 ∧ ((L108 14 ((nx gs 1).1 0)).toInt < (Int32.toInt 0) ∨ (Int32.toInt 9) < (L108 14 ((nx gs 1).1 0)).toInt) ∧ (V120 1 3).toInt = 4 + 16 * (V107 13 ((nx gs 1).1 0)).toInt))) := t119
      have r122 : 0 ≤ ((V120 1 8)).toInt ∧ ((V120 1 8)).toInt ≤ 999999999 := hMV120 1 8
      have nv130 := congrArg Int64.toInt rl111.tok.2.1
      rcases t119 with ⟨q123, h124, h125, h126, k127, k128, k129⟩ | ⟨q123, ⟨h124, k127⟩ | ⟨h124, h125, k127⟩⟩
      · skip
        have rl131 : RelC V120 L121 b gT (nx (nx gs 1) 1) := RelC.nx1 rl111 ajV120 (by decide) axL121 (by decide) k127 k129
        have hr132 : ∀ k, Rc gT (Crun gs (Icalled :: Irank :: IwhenI :: k)) (Crun (nx (nx gs 1) 1) (IwhenI :: k)) := fun k => Rc.go1 (hr97 k) (nm_y (rl111.tok.1.trans h124) (by omega) (by omega))
        refine lv_if_ne (tgt := 62) hx hb dX1_readExtras_57 (by decide) (fun c133 => ?_) (fun c133 => ?_)
        · skip
          have f134 : z114.toInt ≠ 0 := b_neq rfl (by decide) c133
          refine lv_aload_n hx hb dX1_readExtras_62 rfl (lv_at hl 1 rfl) ?_
          refine lv_aload_n hx hb dX1_readExtras_63 rfl (lv_at hl 0 rfl) ?_
          refine va_get (D := D) (ci := 1) (v := .int (V120 1 8)) (fs := (xfReader ad V120 L121 Z)) (C := RX1) (T := TX1) (N := 9) hx hb hg inX1 hown hK hP 1 xgReader rfl 8 (by decide) (hg _ w312) (fun _ h9 => h9) rfl dX1_readExtras_64 ?_
          refine va_putN (D := D) (ci := 3) (v := .int (V120 1 8)) (ty := tyX3 8) (fs := (xfComp ad V120 gi)) (C := RX3) (T := TX3) (N := 13) hx hb hg inX3 tyX3 tyX3_ok nmX3 hown hK hP hD hS (72 + gi) (xgComp hgi) rfl 8 (by decide) (hnw.use 528 n528 rfl) (fun _ h9 => h9) rfl (tyX3_ok 8 (by decide)) rfl rfl (Nat.le_of_ble_eq_true rfl) dX1_readExtras_67 (fun H locs hP hD hS => ?_)
          obtain ⟨V135, hV135⟩ : ∃ z, z = up2 V120 53 gi (V120 1 8) := ⟨_, rfl⟩
          have ew136 : (xw ad kk V120 L121 Z).set (72 + gi) ((ad (72 + gi)), .inr (3, (xfComp ad V120 gi).set 8 (.int (V120 1 8)))) = xw ad kk V135 L121 Z := by rw [hV135]; exact xpComp_rank hgi
          have hP : va_P D vwCl (xw ad kk V135 L121 Z) H := by rw [← ew136]; exact hP
          have hD : va_D A (xw ad kk V135 L121 Z) := by rw [← ew136]; exact hD
          have hMV135 : rgd bX V135 := hMV120.put hV135 (i_full _)
          have agV135 : agr [(1, 3), (1, 6), (1, 8), (6, 8), (6, 9), (6, 10)] [43, 44, 52, 53, 54, 55] V V135 := agV120.up hV135 rfl
          refine lv_aload_n hx hb dX1_readExtras_70 rfl (lv_at hl 0 rfl) ?_
          refine va_get (D := D) (ci := 1) (v := .ref (ad 6)) (fs := (xfReader ad V135 L121 Z)) (C := RX1) (T := TX1) (N := 9) hx hb hg inX1 hown hK hP 1 xgReader rfl 0 (by decide) (hg _ w304) (fun _ h9 => h9) rfl dX1_readExtras_71 ?_
          refine va_getN (D := D) (ci := 9) (v := .int (V135 6 9)) (fs := (xfTape ad V135 L121 Z)) (C := RX9) (T := TX9) (N := 12) hx hb hg inX9 hown hK hP 6 xgTape rfl 9 (by decide) (hnw.use 262 n262 rfl) (fun _ h9 => h9) rfl dX1_readExtras_74 ?_
          refine g_top (v := (V120 6 9)) (up2_o hV135 (by decide)) ?_
          refine lv_sipush (v := 135) hx hb dX1_readExtras_77 (by decide) ?_
          refine lv_icmp_ne (tgt := 127) hx hb dX1_readExtras_80 (by decide) (fun c137 => ?_) (fun c137 => ?_)
          · skip
            have f138 : ((V120 6 9)).toInt ≠ 135 := b_neq rfl (by decide) c137
            refine lv_iconst (v := 1) hx hb dX1_readExtras_127 (by decide) ?_
            have rl139 : RelC V135 L121 b gT (nx (nx gs 1) 1) := RelC.ag rl131 (show agr [] [53] V120 V135 from (agr.up agr.rf hV135 rfl)) (by decide) (show agL [] L121 L121 from agL.rf) (by decide)
            have kd140 : gT.1 ((nx (nx gs 1) 1).1 0) = ((V120 6 9)).toInt := (RelC.kd rl139).trans (congrArg Int32.toInt (up2_o hV135 (by decide)))
            have hr141 : ∀ k, Rc gT (Crun gs (Icalled :: Irank :: IwhenI :: k)) (Crun (nx (nx gs 1) 1) (k)) := fun k => Rc.go1 (hr132 k) (when_n  (fun h9 => f138 (kd140.symm.trans h9)))
            exact W.zret (v := 1) hx hb hr rfl (fun t ht hW => ⟨⟨1, (V135, L121), rfl, ⟨hMV135, agV135, alL121, (by decide), (Or.inl ⟨rfl, (nx (nx gs 1) 1), hr141, rl139, keepS.le (keepS.tr (keepS.tr (keepS.rf : keepS gs 0 gs) (keepS.n1 1)) (keepS.n1 1)) (by decide)⟩)⟩, by rw [ht]; exact hP, va_K.moved hW.alike hK, hD⟩, hS.F ht⟩) hS.2.2 dX1_readExtras_128
          · skip
            have f142 : ((V120 6 9)).toInt = 135 := b_eq rfl (by decide) c137
            refine lv_aload_n hx hb dX1_readExtras_83 rfl (lv_at hl 0 rfl) ?_
            refine va_get (D := D) (ci := 1) (v := .ref (ad 6)) (fs := (xfReader ad V135 L121 Z)) (C := RX1) (T := TX1) (N := 9) hx hb hg inX1 hown hK hP 1 xgReader rfl 0 (by decide) (hg _ w304) (fun _ h9 => h9) rfl dX1_readExtras_84 ?_
            have rl143 : RelC V135 L121 b gT (nx (nx gs 1) 1) := RelC.ag rl131 (show agr [] [53] V120 V135 from (agr.up agr.rf hV135 rfl)) (by decide) (show agL [] L121 L121 from agL.rf) (by decide)
            have kd144 : gT.1 ((nx (nx gs 1) 1).1 0) = ((V120 6 9)).toInt := (RelC.kd rl143).trans (congrArg Int32.toInt (up2_o hV135 (by decide)))
            have hr145 : ∀ k, Rc gT (Crun gs (Icalled :: Irank :: IwhenI :: k)) (Crun (nx (nx (nx gs 1) 1) 1) (Isetting :: Inum 0 999999999 :: k)) := fun k => Rc.go1 (hr132 k) (when_y  (kd144.trans f142))
            have l8146 := RelC.l8 rl143
            have pq147 : (V135 6 8).toInt = ((V120 6 8)).toInt := congrArg Int32.toInt (up2_o hV135 (by decide))
            have r148 : 0 ≤ ((V120 6 8)).toInt ∧ ((V120 6 8)).toInt ≤ 4000 := hMV120 6 8
            have pq149 : (V135 6 7).toInt = ((V 6 7)).toInt := congrArg Int32.toInt ((up2_o hV135 (by decide)).trans ((ajV120 6 7 rfl).trans (ajV107 6 7 rfl)))
            have pq150 : (V135 6 9).toInt = ((V120 6 9)).toInt := congrArg Int32.toInt (up2_o hV135 (by decide))
            have lk151 := RelC.lk rl143 (show (V135 6 9).toInt ≠ 0 from by omega)
            refine gA_void (gA_runV (As := []) (rest := []) (ci := 9) (q0 := 6) hx hb hml hown hg hP hD hK hS hA hnw hgk (x_next2 l D ks H.size ad kk V135 L121 Z  hMV135 (show (V135 6 8).toInt ≤ (V135 6 7).toInt from by first | omega | ((try (have i_t118 := Imp.go t118 (by omega))); (try (have i_t117 := Imp.go t117 (by omega))); (try (have i_t117 := Imp.go t117 (by omega))); (try (have i_t118 := Imp.go t118 (by omega))); omega))) w871 w852 w853 w157 w854 rfl xgTape hdV_yX9_next ⟨Nat.le_of_ble_eq_true rfl, Nat.le_of_ble_eq_true rfl⟩ rfl hl.1 rfl (Nat.le_of_ble_eq_true rfl) dX1_readExtras_87 ⟨Nat.le_of_ble_eq_true rfl, Nat.le_of_ble_eq_true rfl⟩) hP hD hK hS hA (fun u153 H locs w154 hP hD hK hS => ?_)
            obtain ⟨V157, L158⟩ := u153
            obtain ⟨hMV157, ajV157, axL158, t155, t156⟩ := w154
            have alL158 : agL [6, 44] L L158 := agL.tr alL121 axL158 (by decide)
            have hP : va_P D vwCl (xw ad kk V157 L158 Z) H := hP
            have hD : va_D A (xw ad kk V157 L158 Z) := hD
            have hMV157 : rgd bX V157 := hMV157
            have ajV157 : agr [(6, 8), (6, 9), (6, 10)] [] V135 V157 := ajV157
            have agV157 : agr [(1, 3), (1, 6), (1, 8), (6, 8), (6, 9), (6, 10)] [43, 44, 52, 53, 54, 55] V V157 := agV135.tr ajV157 (by decide) (by decide)
            have t155 : (V157 6 8).toInt ≤ (V157 6 7).toInt := t155
            have t156 : CUR V157 L158 (Int32.toNatClampNeg (V135 6 8)) := t156
            have r159 : 0 ≤ ((V157 6 8)).toInt ∧ ((V157 6 8)).toInt ≤ 4000 := hMV157 6 8
            have pq160 : (V157 6 7).toInt = ((V 6 7)).toInt := congrArg Int32.toInt ((ajV157 6 7 rfl).trans ((up2_o hV135 (by decide)).trans ((ajV120 6 7 rfl).trans (ajV107 6 7 rfl))))
            have rl161 : RelC V157 L158 b gT (nx (nx (nx gs 1) 1) 1) := RelC.nx1 rl143 ajV157 (by decide) axL158 (by decide) (by rw [← lk151]; exact t156) (ajV157 1 3 rfl)
            refine lv_aload_n hx hb dX1_readExtras_90 rfl (lv_at hl 0 rfl) ?_
            have pq162 : (V157 1 1).toInt = ((V 1 1)).toInt := congrArg Int32.toInt ((ajV157 1 1 rfl).trans ((up2_o hV135 (by decide)).trans ((ajV120 1 1 rfl).trans (ajV107 1 1 rfl))))
            refine gA_int (gA_runV (As := []) (rest := []) (ci := 1) (q0 := 1) hx hb hml hown hg hP hD hK hS hA hnw hgk (x_takeSetting3 l D ks H.size ad kk V157 L158 Z (b) (gT) ((nx (nx (nx gs 1) 1) 1)) hMV157 (show b < 2 from by first | omega | ((try (have i_t118 := Imp.go t118 (by omega))); (try (have i_t117 := Imp.go t117 (by omega))); (try (have i_t117 := Imp.go t117 (by omega))); (try (have i_t118 := Imp.go t118 (by omega))); omega)) (show (V157 1 1).toInt = (b : Int) from by first | omega | ((try (have i_t118 := Imp.go t118 (by omega))); (try (have i_t117 := Imp.go t117 (by omega))); (try (have i_t117 := Imp.go t117 (by omega))); (try (have i_t118 := Imp.go t118 (by omega))); omega)) rl161) w931 w933 w17 w162 w934 rfl xgReader hdV_yX1_takeSetting ⟨Nat.le_of_ble_eq_true rfl, Nat.le_of_ble_eq_true rfl⟩ rfl hl.1 rfl (Nat.le_of_ble_eq_true rfl) dX1_readExtras_91 ⟨Nat.le_of_ble_eq_true rfl, Nat.le_of_ble_eq_true rfl⟩) hP hD hK hS hA (fun z163 u164 H locs w165 hP hD hK hS => ?_)
            obtain ⟨V167, L168⟩ := u164
            obtain ⟨hMV167, ajV167, axL168, rgz163, t166⟩ := w165
            have alL168 : agL [6, 44] L L168 := agL.tr alL158 axL168 (by decide)
            have hP : va_P D vwCl (xw ad kk V167 L168 Z) H := hP
            have hD : va_D A (xw ad kk V167 L168 Z) := hD
            have hMV167 : rgd bX V167 := hMV167
            have ajV167 : agr [(1, 3), (1, 6), (6, 8), (6, 9), (6, 10)] [] V157 V167 := ajV167
            have agV167 : agr [(1, 3), (1, 6), (1, 8), (6, 8), (6, 9), (6, 10)] [43, 44, 52, 53, 54, 55] V V167 := agV157.tr ajV167 (by decide) (by decide)
            have rgz163 : 0 ≤ z163.toInt ∧ z163.toInt ≤ 1 := rgz163
            have t166 : KcN (look gT (nx (nx (nx gs 1) 1) 1) ((nx (nx (nx gs 1) 1) 1).2.1 1)) z163.toInt (V167 1 3).toInt (fun f9 => RelC V167 L168 b gT (nx (nx (nx (nx gs 1) 1) 1) 1) ∧ (V167 1 6).toInt = ((f9 : Nat) : Int) ∧ f9 < 12) := t166
            rcases t166 with ⟨q169, fx170, h171, rl172, hf173, hb174⟩ | ⟨q169, h171⟩
            · skip
              have hr175 : ∀ k, Rc gT (Crun gs (Icalled :: Irank :: IwhenI :: k)) (Crun (nx (nx (nx (nx gs 1) 1) 1) 1) (Inum 0 999999999 :: k)) := fun k => Rc.go1 (hr145 k) (se_y h171)
              refine lv_if_ne (tgt := 99) hx hb dX1_readExtras_94 (by decide) (fun c176 => ?_) (fun c176 => ?_)
              · skip
                have f177 : z163.toInt ≠ 0 := b_neq rfl (by decide) c176
                refine lv_aload_n hx hb dX1_readExtras_99 rfl (lv_at hl 1 rfl) ?_
                refine lv_aload_n hx hb dX1_readExtras_100 rfl (lv_at hl 0 rfl) ?_
                refine va_get (D := D) (ci := 1) (v := .int (V167 1 6)) (fs := (xfReader ad V167 L168 Z)) (C := RX1) (T := TX1) (N := 9) hx hb hg inX1 hown hK hP 1 xgReader rfl 6 (by decide) (hg _ w310) (fun _ h9 => h9) rfl dX1_readExtras_101 ?_
                have r178 : (-1) ≤ ((V167 1 6)).toInt ∧ ((V167 1 6)).toInt ≤ 23 := hMV167 1 6
                refine va_putN (D := D) (ci := 3) (v := .int (V167 1 6)) (ty := tyX3 9) (fs := (xfComp ad V167 gi)) (C := RX3) (T := TX3) (N := 13) hx hb hg inX3 tyX3 tyX3_ok nmX3 hown hK hP hD hS (72 + gi) (xgComp hgi) rfl 9 (by decide) (hnw.use 533 n533 rfl) (fun _ h9 => h9) rfl (tyX3_ok 9 (by decide)) rfl rfl (Nat.le_of_ble_eq_true rfl) dX1_readExtras_104 (fun H locs hP hD hS => ?_)
                obtain ⟨V179, hV179⟩ : ∃ z, z = up2 V167 54 gi (V167 1 6) := ⟨_, rfl⟩
                have ew180 : (xw ad kk V167 L168 Z).set (72 + gi) ((ad (72 + gi)), .inr (3, (xfComp ad V167 gi).set 9 (.int (V167 1 6)))) = xw ad kk V179 L168 Z := by rw [hV179]; exact xpComp_whenSetting hgi
                have hP : va_P D vwCl (xw ad kk V179 L168 Z) H := by rw [← ew180]; exact hP
                have hD : va_D A (xw ad kk V179 L168 Z) := by rw [← ew180]; exact hD
                have hMV179 : rgd bX V179 := hMV167.put hV179 (show (-1) ≤ ((V167 1 6)).toInt ∧ ((V167 1 6)).toInt ≤ 11 from by first | omega | ((try (have i_t118 := Imp.go t118 (by omega))); (try (have i_t117 := Imp.go t117 (by omega))); (try (have i_t117 := Imp.go t117 (by omega))); (try (have i_t118 := Imp.go t118 (by omega))); omega))
                have agV179 : agr [(1, 3), (1, 6), (1, 8), (6, 8), (6, 9), (6, 10)] [43, 44, 52, 53, 54, 55] V V179 := agV167.up hV179 rfl
                refine lv_aload_n hx hb dX1_readExtras_107 rfl (lv_at hl 0 rfl) ?_
                refine lv_iconst (v := 0) hx hb dX1_readExtras_108 (by decide) ?_
                refine lv_ldc (v := 999999999) hx hb hown (hg _ w905) dX1_readExtras_109 ?_
                have rl181 : RelC V179 L168 b gT (nx (nx (nx (nx gs 1) 1) 1) 1) := RelC.ag rl172 (show agr [] [54] V167 V179 from (agr.up agr.rf hV179 rfl)) (by decide) (show agL [] L168 L168 from agL.rf) (by decide)
                have r182 : Int32.toInt 999999999 = 999999999 := by decide
                refine gA_int (gA_runV (As := [.int 0, .int 999999999]) (rest := []) (ci := 1) (q0 := 1) hx hb hml hown hg hP hD hK hS hA hnw hgk (x_takeNumber2 l D ks H.size ad kk V179 L168 Z 0 999999999 (((nx (nx (nx (nx gs 1) 1) 1) 1).1 0)) hMV179 (rl181).1 (rl181).2.1.1 (show 0 ≤ (Int32.toInt 0) from by first | omega | ((try (have i_t118 := Imp.go t118 (by omega))); (try (have i_t117 := Imp.go t117 (by omega))); (try (have i_t117 := Imp.go t117 (by omega))); (try (have i_t118 := Imp.go t118 (by omega))); omega)) (show (Int32.toInt 999999999) ≤ 999999999 from by first | omega | ((try (have i_t118 := Imp.go t118 (by omega))); (try (have i_t117 := Imp.go t117 (by omega))); (try (have i_t117 := Imp.go t117 (by omega))); (try (have i_t118 := Imp.go t118 (by omega))); omega))) w906 w908 w12 w162 w909 rfl xgReader hdV_yX1_takeNumber ⟨Nat.le_of_ble_eq_true rfl, Nat.le_of_ble_eq_true rfl⟩ rfl hl.1 rfl (Nat.le_of_ble_eq_true rfl) dX1_readExtras_111 ⟨Nat.le_of_ble_eq_true rfl, Nat.le_of_ble_eq_true rfl⟩) hP hD hK hS hA (fun z183 u184 H locs w185 hP hD hK hS => ?_)
                obtain ⟨V189, L190⟩ := u184
                obtain ⟨hMV189, ajV189, axL190, rgz183, t186, t187, t188⟩ := w185
                have alL190 : agL [6, 44] L L190 := agL.tr alL168 axL190 (by decide)
                have hP : va_P D vwCl (xw ad kk V189 L190 Z) H := hP
                have hD : va_D A (xw ad kk V189 L190 Z) := hD
                have hMV189 : rgd bX V189 := hMV189
                have ajV189 : agr [(1, 3), (1, 8), (6, 8), (6, 9), (6, 10)] [] V179 V189 := ajV189
                have agV189 : agr [(1, 3), (1, 6), (1, 8), (6, 8), (6, 9), (6, 10)] [43, 44, 52, 53, 54, 55] V V189 := agV179.tr ajV189 (by decide) (by decide)
                have rgz183 : 0 ≤ z183.toInt ∧ z183.toInt ≤ 1 := rgz183
                have t186 : Imp (z183.toInt = 1) ((Int32.toInt 0) ≤ (V189 1 8).toInt ∧ (V189 1 8).toInt ≤ (Int32.toInt 999999999)) := t186
                have t187 : Imp (z183.toInt = 0) (1 ≤ (V189 1 3).toInt) := t187
                have t188 : (z183.toInt = 1 ∧ (V179 12 ((nx (nx (nx (nx gs 1) 1) 1) 1).1 0)).toInt = 2 ∧ (Int32.toInt 0) ≤ (L168 14 ((nx (nx (nx (nx gs 1) 1) 1) 1).1 0)).toInt ∧ (L168 14 ((nx (nx (nx (nx gs 1) 1) 1) 1).1 0)).toInt ≤ (Int32.toInt 999999999) ∧ CUR V189 L190 (((nx (nx (nx (nx gs 1) 1) 1) 1).1 0) + 1) ∧ (V189 1 8).toInt = (L168 14 ((nx (nx (nx (nx gs 1) 1) 1) 1).1 0)).toInt ∧ V189 1 3 = V179 1 3) ∨ (z183.toInt = 0 ∧ (((V179 12 ((nx (nx (nx (nx gs 1) 1) 1) 1).1 0)).toInt ≠ 2 ∧ (V189 1 3).toInt = 1 + 16 * (V179 13 ((nx (nx (nx (nx gs 1) 1) 1) 1).1 0)).toInt) ∨ ((V179 12 ((nx (nx (nx (nx gs 1) 1) 1) 1).1 0)).toInt = 2 ∧ ((L168 14 ((nx (nx (nx (nx gs 1) 1) 1) 1).1 0)).toInt < (Int32.toInt 0) ∨ (Int32.toInt 999999999) < (L168 14 ((nx (nx (nx (nx gs 1) 1) 1) 1).1 0)).toInt) ∧ (V189 1 3).toInt = 4 + 16 * (V179 13 ((nx (nx (nx (nx gs 1) 1) 1) 1).1 0)).toInt))) := t188
                have r191 : 0 ≤ ((V189 1 8)).toInt ∧ ((V189 1 8)).toInt ≤ 999999999 := hMV189 1 8
                have nv199 := congrArg Int64.toInt rl181.tok.2.1
                rcases t188 with ⟨q192, h193, h194, h195, k196, k197, k198⟩ | ⟨q192, ⟨h193, k196⟩ | ⟨h193, h194, k196⟩⟩
                · skip
                  have rl200 : RelC V189 L190 b gT (nx (nx (nx (nx (nx gs 1) 1) 1) 1) 1) := RelC.nx1 rl181 ajV189 (by decide) axL190 (by decide) k196 k198
                  have hr201 : ∀ k, Rc gT (Crun gs (Icalled :: Irank :: IwhenI :: k)) (Crun (nx (nx (nx (nx (nx gs 1) 1) 1) 1) 1) (k)) := fun k => Rc.go1 (hr175 k) (nm_y (rl181.tok.1.trans h193) (by omega) (by omega))
                  refine lv_if_ne (tgt := 119) hx hb dX1_readExtras_114 (by decide) (fun c202 => ?_) (fun c202 => ?_)
                  · skip
                    have f203 : z183.toInt ≠ 0 := b_neq rfl (by decide) c202
                    refine lv_aload_n hx hb dX1_readExtras_119 rfl (lv_at hl 1 rfl) ?_
                    refine lv_aload_n hx hb dX1_readExtras_120 rfl (lv_at hl 0 rfl) ?_
                    refine va_get (D := D) (ci := 1) (v := .int (V189 1 8)) (fs := (xfReader ad V189 L190 Z)) (C := RX1) (T := TX1) (N := 9) hx hb hg inX1 hown hK hP 1 xgReader rfl 8 (by decide) (hg _ w312) (fun _ h9 => h9) rfl dX1_readExtras_121 ?_
                    refine va_putN (D := D) (ci := 3) (v := .int (V189 1 8)) (ty := tyX3 10) (fs := (xfComp ad V189 gi)) (C := RX3) (T := TX3) (N := 13) hx hb hg inX3 tyX3 tyX3_ok nmX3 hown hK hP hD hS (72 + gi) (xgComp hgi) rfl 10 (by decide) (hnw.use 536 n536 rfl) (fun _ h9 => h9) rfl (tyX3_ok 10 (by decide)) rfl rfl (Nat.le_of_ble_eq_true rfl) dX1_readExtras_124 (fun H locs hP hD hS => ?_)
                    obtain ⟨V204, hV204⟩ : ∃ z, z = up2 V189 55 gi (V189 1 8) := ⟨_, rfl⟩
                    have ew205 : (xw ad kk V189 L190 Z).set (72 + gi) ((ad (72 + gi)), .inr (3, (xfComp ad V189 gi).set 10 (.int (V189 1 8)))) = xw ad kk V204 L190 Z := by rw [hV204]; exact xpComp_whenValue hgi
                    have hP : va_P D vwCl (xw ad kk V204 L190 Z) H := by rw [← ew205]; exact hP
                    have hD : va_D A (xw ad kk V204 L190 Z) := by rw [← ew205]; exact hD
                    have hMV204 : rgd bX V204 := hMV189.put hV204 (i_full _)
                    have agV204 : agr [(1, 3), (1, 6), (1, 8), (6, 8), (6, 9), (6, 10)] [43, 44, 52, 53, 54, 55] V V204 := agV189.up hV204 rfl
                    refine lv_iconst (v := 1) hx hb dX1_readExtras_127 (by decide) ?_
                    have rl206 : RelC V204 L190 b gT (nx (nx (nx (nx (nx gs 1) 1) 1) 1) 1) := RelC.ag rl200 (show agr [] [55] V189 V204 from (agr.up agr.rf hV204 rfl)) (by decide) (show agL [] L190 L190 from agL.rf) (by decide)
                    exact W.zret (v := 1) hx hb hr rfl (fun t ht hW => ⟨⟨1, (V204, L190), rfl, ⟨hMV204, agV204, alL190, (by decide), (Or.inl ⟨rfl, (nx (nx (nx (nx (nx gs 1) 1) 1) 1) 1), hr201, rl206, keepS.le (keepS.tr (keepS.tr (keepS.tr (keepS.tr (keepS.tr (keepS.rf : keepS gs 0 gs) (keepS.n1 1)) (keepS.n1 1)) (keepS.n1 1)) (keepS.n1 1)) (keepS.n1 1)) (by decide)⟩)⟩, by rw [ht]; exact hP, va_K.moved hW.alike hK, hD⟩, hS.F ht⟩) hS.2.2 dX1_readExtras_128
                  · skip
                    have f207 : z183.toInt = 0 := b_eq rfl (by decide) c202
                    exfalso; first | omega | ((try (have i_t187 := Imp.go t187 (by omega))); (try (have i_t186 := Imp.go t186 (by omega))); (try (have i_t118 := Imp.go t118 (by omega))); (try (have i_t117 := Imp.go t117 (by omega))); (try (have i_t117 := Imp.go t117 (by omega))); (try (have i_t118 := Imp.go t118 (by omega))); (try (have i_t186 := Imp.go t186 (by omega))); (try (have i_t187 := Imp.go t187 (by omega))); omega)
                · skip
                  have hb208 : ∀ k, Rc gT (Crun gs (Icalled :: Irank :: IwhenI :: k)) (Cbad (V189 1 3).toInt) := fun k => Rc.go1 (hr175 k) ((nm_1 (fun h9 => h193 (rl181.tok.1.symm.trans h9))).trans (fl_eq rl181.tok.2.2 k196))
                  refine lv_if_ne (tgt := 119) hx hb dX1_readExtras_114 (by decide) (fun c209 => ?_) (fun c209 => ?_)
                  · skip
                    have f210 : z183.toInt ≠ 0 := b_neq rfl (by decide) c209
                    exfalso; first | omega | ((try (have i_t187 := Imp.go t187 (by omega))); (try (have i_t186 := Imp.go t186 (by omega))); (try (have i_t118 := Imp.go t118 (by omega))); (try (have i_t117 := Imp.go t117 (by omega))); (try (have i_t117 := Imp.go t117 (by omega))); (try (have i_t118 := Imp.go t118 (by omega))); (try (have i_t186 := Imp.go t186 (by omega))); (try (have i_t187 := Imp.go t187 (by omega))); omega)
                  · skip
                    have f211 : z183.toInt = 0 := b_eq rfl (by decide) c209
                    refine lv_iconst (v := 0) hx hb dX1_readExtras_117 (by decide) ?_
                    exact W.zret (v := 0) hx hb hr rfl (fun t ht hW => ⟨⟨0, (V189, L190), rfl, ⟨hMV189, agV189, alL190, (by decide), (Or.inr ⟨rfl, hb208⟩)⟩, by rw [ht]; exact hP, va_K.moved hW.alike hK, hD⟩, hS.F ht⟩) hS.2.2 dX1_readExtras_118
                · skip
                  have hb212 : ∀ k, Rc gT (Crun gs (Icalled :: Irank :: IwhenI :: k)) (Cbad (V189 1 3).toInt) := fun k => Rc.go1 (hr175 k) ((nm_4 (rl181.tok.1.trans h193) (by omega)).trans (fl_eq rl181.tok.2.2 k196))
                  refine lv_if_ne (tgt := 119) hx hb dX1_readExtras_114 (by decide) (fun c213 => ?_) (fun c213 => ?_)
                  · skip
                    have f214 : z183.toInt ≠ 0 := b_neq rfl (by decide) c213
                    exfalso; first | omega | ((try (have i_t187 := Imp.go t187 (by omega))); (try (have i_t186 := Imp.go t186 (by omega))); (try (have i_t118 := Imp.go t118 (by omega))); (try (have i_t117 := Imp.go t117 (by omega))); (try (have i_t117 := Imp.go t117 (by omega))); (try (have i_t118 := Imp.go t118 (by omega))); (try (have i_t186 := Imp.go t186 (by omega))); (try (have i_t187 := Imp.go t187 (by omega))); omega)
                  · skip
                    have f215 : z183.toInt = 0 := b_eq rfl (by decide) c213
                    refine lv_iconst (v := 0) hx hb dX1_readExtras_117 (by decide) ?_
                    exact W.zret (v := 0) hx hb hr rfl (fun t ht hW => ⟨⟨0, (V189, L190), rfl, ⟨hMV189, agV189, alL190, (by decide), (Or.inr ⟨rfl, hb212⟩)⟩, by rw [ht]; exact hP, va_K.moved hW.alike hK, hD⟩, hS.F ht⟩) hS.2.2 dX1_readExtras_118
              · skip
                have f216 : z163.toInt = 0 := b_eq rfl (by decide) c176
                exfalso; first | omega | ((try (have i_t118 := Imp.go t118 (by omega))); (try (have i_t117 := Imp.go t117 (by omega))); (try (have i_t117 := Imp.go t117 (by omega))); (try (have i_t118 := Imp.go t118 (by omega))); omega)
            · skip
              have hb217 : ∀ k, Rc gT (Crun gs (Icalled :: Irank :: IwhenI :: k)) (Cbad (V167 1 3).toInt) := fun k => Rc.go1 (hr145 k) (se_b h171)
              refine lv_if_ne (tgt := 99) hx hb dX1_readExtras_94 (by decide) (fun c218 => ?_) (fun c218 => ?_)
              · skip
                have f219 : z163.toInt ≠ 0 := b_neq rfl (by decide) c218
                exfalso; first | omega | ((try (have i_t118 := Imp.go t118 (by omega))); (try (have i_t117 := Imp.go t117 (by omega))); (try (have i_t117 := Imp.go t117 (by omega))); (try (have i_t118 := Imp.go t118 (by omega))); omega)
              · skip
                have f220 : z163.toInt = 0 := b_eq rfl (by decide) c218
                refine lv_iconst (v := 0) hx hb dX1_readExtras_97 (by decide) ?_
                exact W.zret (v := 0) hx hb hr rfl (fun t ht hW => ⟨⟨0, (V167, L168), rfl, ⟨hMV167, agV167, alL168, (by decide), (Or.inr ⟨rfl, hb217⟩)⟩, by rw [ht]; exact hP, va_K.moved hW.alike hK, hD⟩, hS.F ht⟩) hS.2.2 dX1_readExtras_98
        · skip
          have f221 : z114.toInt = 0 := b_eq rfl (by decide) c133
          exfalso; first | omega | ((try (have i_t118 := Imp.go t118 (by omega))); (try (have i_t117 := Imp.go t117 (by omega))); (try (have i_t117 := Imp.go t117 (by omega))); (try (have i_t118 := Imp.go t118 (by omega))); omega)
      · skip
        have hb222 : ∀ k, Rc gT (Crun gs (Icalled :: Irank :: IwhenI :: k)) (Cbad (V120 1 3).toInt) := fun k => Rc.go1 (hr97 k) ((nm_1 (fun h9 => h124 (rl111.tok.1.symm.trans h9))).trans (fl_eq rl111.tok.2.2 k127))
        refine lv_if_ne (tgt := 62) hx hb dX1_readExtras_57 (by decide) (fun c223 => ?_) (fun c223 => ?_)
        · skip
          have f224 : z114.toInt ≠ 0 := b_neq rfl (by decide) c223
          exfalso; first | omega | ((try (have i_t118 := Imp.go t118 (by omega))); (try (have i_t117 := Imp.go t117 (by omega))); (try (have i_t117 := Imp.go t117 (by omega))); (try (have i_t118 := Imp.go t118 (by omega))); omega)
        · skip
          have f225 : z114.toInt = 0 := b_eq rfl (by decide) c223
          refine lv_iconst (v := 0) hx hb dX1_readExtras_60 (by decide) ?_
          exact W.zret (v := 0) hx hb hr rfl (fun t ht hW => ⟨⟨0, (V120, L121), rfl, ⟨hMV120, agV120, alL121, (by decide), (Or.inr ⟨rfl, hb222⟩)⟩, by rw [ht]; exact hP, va_K.moved hW.alike hK, hD⟩, hS.F ht⟩) hS.2.2 dX1_readExtras_61
      · skip
        have hb226 : ∀ k, Rc gT (Crun gs (Icalled :: Irank :: IwhenI :: k)) (Cbad (V120 1 3).toInt) := fun k => Rc.go1 (hr97 k) ((nm_4 (rl111.tok.1.trans h124) (by omega)).trans (fl_eq rl111.tok.2.2 k127))
        refine lv_if_ne (tgt := 62) hx hb dX1_readExtras_57 (by decide) (fun c227 => ?_) (fun c227 => ?_)
        · skip
          have f228 : z114.toInt ≠ 0 := b_neq rfl (by decide) c227
          exfalso; first | omega | ((try (have i_t118 := Imp.go t118 (by omega))); (try (have i_t117 := Imp.go t117 (by omega))); (try (have i_t117 := Imp.go t117 (by omega))); (try (have i_t118 := Imp.go t118 (by omega))); omega)
        · skip
          have f229 : z114.toInt = 0 := b_eq rfl (by decide) c227
          refine lv_iconst (v := 0) hx hb dX1_readExtras_60 (by decide) ?_
          exact W.zret (v := 0) hx hb hr rfl (fun t ht hW => ⟨⟨0, (V120, L121), rfl, ⟨hMV120, agV120, alL121, (by decide), (Or.inr ⟨rfl, hb226⟩)⟩, by rw [ht]; exact hP, va_K.moved hW.alike hK, hD⟩, hS.F ht⟩) hS.2.2 dX1_readExtras_61
  · skip
    have f230 : ((V 6 9)).toInt = 133 := b_eq rfl (by decide) c2
    refine lv_aload_n hx hb dX1_readExtras_13 rfl (lv_at hl 0 rfl) ?_
    have hr231 : ∀ k, Rc gT (Crun gs (Icalled :: Irank :: IwhenI :: k)) (Crun gs (Icalled :: Irank :: IwhenI :: k)) := fun k => Rc.rf
    have kd232 : gT.1 (gs.1 0) = ((V 6 9)).toInt := RelC.kd rel
    have hr233 : ∀ k, Rc gT (Crun gs (Icalled :: Irank :: IwhenI :: k)) (Crun (nx gs 1) (Iword :: Irank :: IwhenI :: k)) := fun k => Rc.go1 (hr231 k) (called_y  (kd232.trans f230))
    refine gA_int (gA_runV (As := []) (rest := []) (ci := 1) (q0 := 1) hx hb hml hown hg hP hD hK hS hA hnw hgk (x_takeCalled3 l D ks H.size ad kk V L Z (b) (gT) (gs) hMV (show b < 2 from by omega) (show (V 1 1).toInt = (b : Int) from by omega) rel (show (V 6 9).toInt = 133 from by omega)) w923 w925 w15 w162 w926 rfl xgReader hdV_yX1_takeCalled ⟨Nat.le_of_ble_eq_true rfl, Nat.le_of_ble_eq_true rfl⟩ rfl hl.1 rfl (Nat.le_of_ble_eq_true rfl) dX1_readExtras_14 ⟨Nat.le_of_ble_eq_true rfl, Nat.le_of_ble_eq_true rfl⟩) hP hD hK hS hA (fun z234 u235 H locs w236 hP hD hK hS => ?_)
    obtain ⟨V238, L239⟩ := u235
    obtain ⟨hMV238, ajV238, axL239, rgz234, t237⟩ := w236
    have alL239 : agL [6, 44] L L239 := agL.tr alL axL239 (by decide)
    have hP : va_P D vwCl (xw ad kk V238 L239 Z) H := hP
    have hD : va_D A (xw ad kk V238 L239 Z) := hD
    have hMV238 : rgd bX V238 := hMV238
    have ajV238 : agr [(1, 3), (1, 6), (6, 8), (6, 9), (6, 10)] [43, 44] V V238 := ajV238
    have agV238 : agr [(1, 3), (1, 6), (1, 8), (6, 8), (6, 9), (6, 10)] [43, 44, 52, 53, 54, 55] V V238 := agV.tr ajV238 (by decide) (by decide)
    have rgz234 : 0 ≤ z234.toInt ∧ z234.toInt ≤ 1 := rgz234
    have t237 : KcS (mthW gT (nx gs 1) 4) z234.toInt (V238 1 3).toInt (fun x9 => RelC V238 L239 b gT x9.2 ∧ (V238 1 6).toInt = ((x9.1 : Nat) : Int) ∧ x9.1 < 20 ∧ keepS gs 2 x9.2) := t237
    rcases t237 with ⟨q240, mx241, h242, rl243, hf244, hb245, kp246⟩ | ⟨q240, h242⟩
    · skip
      have hr247 : ∀ k, Rc gT (Crun gs (Icalled :: Irank :: IwhenI :: k)) (Crun mx241.2 (Irank :: IwhenI :: k)) := fun k => Rc.go1 (hr233 k) (wo_y h242)
      refine lv_if_ne (tgt := 22) hx hb dX1_readExtras_17 (by decide) (fun c248 => ?_) (fun c248 => ?_)
      · skip
        have f249 : z234.toInt ≠ 0 := b_neq rfl (by decide) c248
        refine lv_aload_n hx hb dX1_readExtras_22 rfl (lv_at hl 1 rfl) ?_
        refine lv_aload_n hx hb dX1_readExtras_23 rfl (lv_at hl 0 rfl) ?_
        refine va_get (D := D) (ci := 1) (v := .int (V238 1 6)) (fs := (xfReader ad V238 L239 Z)) (C := RX1) (T := TX1) (N := 9) hx hb hg inX1 hown hK hP 1 xgReader rfl 6 (by decide) (hg _ w310) (fun _ h9 => h9) rfl dX1_readExtras_24 ?_
        have r250 : (-1) ≤ ((V238 1 6)).toInt ∧ ((V238 1 6)).toInt ≤ 23 := hMV238 1 6
        refine va_putN (D := D) (ci := 3) (v := .int (V238 1 6)) (ty := tyX3 7) (fs := (xfComp ad V238 gi)) (C := RX3) (T := TX3) (N := 13) hx hb hg inX3 tyX3 tyX3_ok nmX3 hown hK hP hD hS (72 + gi) (xgComp hgi) rfl 7 (by decide) (hnw.use 524 n524 rfl) (fun _ h9 => h9) rfl (tyX3_ok 7 (by decide)) rfl rfl (Nat.le_of_ble_eq_true rfl) dX1_readExtras_27 (fun H locs hP hD hS => ?_)
        obtain ⟨V251, hV251⟩ : ∃ z, z = up2 V238 52 gi (V238 1 6) := ⟨_, rfl⟩
        have ew252 : (xw ad kk V238 L239 Z).set (72 + gi) ((ad (72 + gi)), .inr (3, (xfComp ad V238 gi).set 7 (.int (V238 1 6)))) = xw ad kk V251 L239 Z := by rw [hV251]; exact xpComp_calledWord hgi
        have hP : va_P D vwCl (xw ad kk V251 L239 Z) H := by rw [← ew252]; exact hP
        have hD : va_D A (xw ad kk V251 L239 Z) := by rw [← ew252]; exact hD
        have hMV251 : rgd bX V251 := hMV238.put hV251 (i_full _)
        have agV251 : agr [(1, 3), (1, 6), (1, 8), (6, 8), (6, 9), (6, 10)] [43, 44, 52, 53, 54, 55] V V251 := agV238.up hV251 rfl
        refine lv_aload_n hx hb dX1_readExtras_30 rfl (lv_at hl 0 rfl) ?_
        refine va_get (D := D) (ci := 1) (v := .ref (ad 6)) (fs := (xfReader ad V251 L239 Z)) (C := RX1) (T := TX1) (N := 9) hx hb hg inX1 hown hK hP 1 xgReader rfl 0 (by decide) (hg _ w304) (fun _ h9 => h9) rfl dX1_readExtras_31 ?_
        refine va_getN (D := D) (ci := 9) (v := .int (V251 6 9)) (fs := (xfTape ad V251 L239 Z)) (C := RX9) (T := TX9) (N := 12) hx hb hg inX9 hown hK hP 6 xgTape rfl 9 (by decide) (hnw.use 262 n262 rfl) (fun _ h9 => h9) rfl dX1_readExtras_34 ?_
        refine g_top (v := (V238 6 9)) (up2_o hV251 (by decide)) ?_
        refine lv_sipush (v := 134) hx hb dX1_readExtras_37 (by decide) ?_
        refine lv_icmp_ne (tgt := 70) hx hb dX1_readExtras_40 (by decide) (fun c253 => ?_) (fun c253 => ?_)
        · skip
          have f254 : ((V238 6 9)).toInt ≠ 134 := b_neq rfl (by decide) c253
          refine lv_aload_n hx hb dX1_readExtras_70 rfl (lv_at hl 0 rfl) ?_
          refine va_get (D := D) (ci := 1) (v := .ref (ad 6)) (fs := (xfReader ad V251 L239 Z)) (C := RX1) (T := TX1) (N := 9) hx hb hg inX1 hown hK hP 1 xgReader rfl 0 (by decide) (hg _ w304) (fun _ h9 => h9) rfl dX1_readExtras_71 ?_
          refine va_getN (D := D) (ci := 9) (v := .int (V251 6 9)) (fs := (xfTape ad V251 L239 Z)) (C := RX9) (T := TX9) (N := 12) hx hb hg inX9 hown hK hP 6 xgTape rfl 9 (by decide) (hnw.use 262 n262 rfl) (fun _ h9 => h9) rfl dX1_readExtras_74 ?_
          refine g_top (v := (V238 6 9)) (up2_o hV251 (by decide)) ?_
          refine lv_sipush (v := 135) hx hb dX1_readExtras_77 (by decide) ?_
          refine lv_icmp_ne (tgt := 127) hx hb dX1_readExtras_80 (by decide) (fun c255 => ?_) (fun c255 => ?_)
          · skip
            have f256 : ((V238 6 9)).toInt ≠ 135 := b_neq rfl (by decide) c255
            refine lv_iconst (v := 1) hx hb dX1_readExtras_127 (by decide) ?_
            have rl257 : RelC V251 L239 b gT mx241.2 := RelC.ag rl243 (show agr [] [52] V238 V251 from (agr.up agr.rf hV251 rfl)) (by decide) (show agL [] L239 L239 from agL.rf) (by decide)
            have kd258 : gT.1 (mx241.2.1 0) = ((V238 6 9)).toInt := (RelC.kd rl257).trans (congrArg Int32.toInt (up2_o hV251 (by decide)))
            have hr259 : ∀ k, Rc gT (Crun gs (Icalled :: Irank :: IwhenI :: k)) (Crun mx241.2 (IwhenI :: k)) := fun k => Rc.go1 (hr247 k) (rank_n  (fun h9 => f254 (kd258.symm.trans h9)))
            have hr260 : ∀ k, Rc gT (Crun gs (Icalled :: Irank :: IwhenI :: k)) (Crun mx241.2 (k)) := fun k => Rc.go1 (hr259 k) (when_n  (fun h9 => f256 (kd258.symm.trans h9)))
            exact W.zret (v := 1) hx hb hr rfl (fun t ht hW => ⟨⟨1, (V251, L239), rfl, ⟨hMV251, agV251, alL239, (by decide), (Or.inl ⟨rfl, mx241.2, hr260, rl257, keepS.le (keepS.tr (keepS.rf : keepS gs 0 gs) kp246) (by decide)⟩)⟩, by rw [ht]; exact hP, va_K.moved hW.alike hK, hD⟩, hS.F ht⟩) hS.2.2 dX1_readExtras_128
          · skip
            have f261 : ((V238 6 9)).toInt = 135 := b_eq rfl (by decide) c255
            refine lv_aload_n hx hb dX1_readExtras_83 rfl (lv_at hl 0 rfl) ?_
            refine va_get (D := D) (ci := 1) (v := .ref (ad 6)) (fs := (xfReader ad V251 L239 Z)) (C := RX1) (T := TX1) (N := 9) hx hb hg inX1 hown hK hP 1 xgReader rfl 0 (by decide) (hg _ w304) (fun _ h9 => h9) rfl dX1_readExtras_84 ?_
            have rl262 : RelC V251 L239 b gT mx241.2 := RelC.ag rl243 (show agr [] [52] V238 V251 from (agr.up agr.rf hV251 rfl)) (by decide) (show agL [] L239 L239 from agL.rf) (by decide)
            have kd263 : gT.1 (mx241.2.1 0) = ((V238 6 9)).toInt := (RelC.kd rl262).trans (congrArg Int32.toInt (up2_o hV251 (by decide)))
            have hr264 : ∀ k, Rc gT (Crun gs (Icalled :: Irank :: IwhenI :: k)) (Crun mx241.2 (IwhenI :: k)) := fun k => Rc.go1 (hr247 k) (rank_n  (fun h9 => absurd (h9.symm.trans (kd263.trans f261)) (by decide)))
            have hr265 : ∀ k, Rc gT (Crun gs (Icalled :: Irank :: IwhenI :: k)) (Crun (nx mx241.2 1) (Isetting :: Inum 0 999999999 :: k)) := fun k => Rc.go1 (hr264 k) (when_y  (kd263.trans f261))
            have l8266 := RelC.l8 rl262
            have pq267 : (V251 6 8).toInt = ((V238 6 8)).toInt := congrArg Int32.toInt (up2_o hV251 (by decide))
            have r268 : 0 ≤ ((V238 6 8)).toInt ∧ ((V238 6 8)).toInt ≤ 4000 := hMV238 6 8
            have pq269 : (V251 6 7).toInt = ((V 6 7)).toInt := congrArg Int32.toInt ((up2_o hV251 (by decide)).trans (ajV238 6 7 rfl))
            have r270 : 0 ≤ ((V 6 7)).toInt ∧ ((V 6 7)).toInt ≤ 4000 := hMV 6 7
            have pq271 : (V251 6 9).toInt = ((V238 6 9)).toInt := congrArg Int32.toInt (up2_o hV251 (by decide))
            have lk272 := RelC.lk rl262 (show (V251 6 9).toInt ≠ 0 from by omega)
            refine gA_void (gA_runV (As := []) (rest := []) (ci := 9) (q0 := 6) hx hb hml hown hg hP hD hK hS hA hnw hgk (x_next2 l D ks H.size ad kk V251 L239 Z  hMV251 (show (V251 6 8).toInt ≤ (V251 6 7).toInt from by omega)) w871 w852 w853 w157 w854 rfl xgTape hdV_yX9_next ⟨Nat.le_of_ble_eq_true rfl, Nat.le_of_ble_eq_true rfl⟩ rfl hl.1 rfl (Nat.le_of_ble_eq_true rfl) dX1_readExtras_87 ⟨Nat.le_of_ble_eq_true rfl, Nat.le_of_ble_eq_true rfl⟩) hP hD hK hS hA (fun u274 H locs w275 hP hD hK hS => ?_)
            obtain ⟨V278, L279⟩ := u274
            obtain ⟨hMV278, ajV278, axL279, t276, t277⟩ := w275
            have alL279 : agL [6, 44] L L279 := agL.tr alL239 axL279 (by decide)
            have hP : va_P D vwCl (xw ad kk V278 L279 Z) H := hP
            have hD : va_D A (xw ad kk V278 L279 Z) := hD
            have hMV278 : rgd bX V278 := hMV278
            have ajV278 : agr [(6, 8), (6, 9), (6, 10)] [] V251 V278 := ajV278
            have agV278 : agr [(1, 3), (1, 6), (1, 8), (6, 8), (6, 9), (6, 10)] [43, 44, 52, 53, 54, 55] V V278 := agV251.tr ajV278 (by decide) (by decide)
            have t276 : (V278 6 8).toInt ≤ (V278 6 7).toInt := t276
            have t277 : CUR V278 L279 (Int32.toNatClampNeg (V251 6 8)) := t277
            have r280 : 0 ≤ ((V278 6 8)).toInt ∧ ((V278 6 8)).toInt ≤ 4000 := hMV278 6 8
            have pq281 : (V278 6 7).toInt = ((V 6 7)).toInt := congrArg Int32.toInt ((ajV278 6 7 rfl).trans ((up2_o hV251 (by decide)).trans (ajV238 6 7 rfl)))
            have rl282 : RelC V278 L279 b gT (nx mx241.2 1) := RelC.nx1 rl262 ajV278 (by decide) axL279 (by decide) (by rw [← lk272]; exact t277) (ajV278 1 3 rfl)
            refine lv_aload_n hx hb dX1_readExtras_90 rfl (lv_at hl 0 rfl) ?_
            have pq283 : (V278 1 1).toInt = ((V 1 1)).toInt := congrArg Int32.toInt ((ajV278 1 1 rfl).trans ((up2_o hV251 (by decide)).trans (ajV238 1 1 rfl)))
            refine gA_int (gA_runV (As := []) (rest := []) (ci := 1) (q0 := 1) hx hb hml hown hg hP hD hK hS hA hnw hgk (x_takeSetting3 l D ks H.size ad kk V278 L279 Z (b) (gT) ((nx mx241.2 1)) hMV278 (show b < 2 from by omega) (show (V278 1 1).toInt = (b : Int) from by omega) rl282) w931 w933 w17 w162 w934 rfl xgReader hdV_yX1_takeSetting ⟨Nat.le_of_ble_eq_true rfl, Nat.le_of_ble_eq_true rfl⟩ rfl hl.1 rfl (Nat.le_of_ble_eq_true rfl) dX1_readExtras_91 ⟨Nat.le_of_ble_eq_true rfl, Nat.le_of_ble_eq_true rfl⟩) hP hD hK hS hA (fun z284 u285 H locs w286 hP hD hK hS => ?_)
            obtain ⟨V288, L289⟩ := u285
            obtain ⟨hMV288, ajV288, axL289, rgz284, t287⟩ := w286
            have alL289 : agL [6, 44] L L289 := agL.tr alL279 axL289 (by decide)
            have hP : va_P D vwCl (xw ad kk V288 L289 Z) H := hP
            have hD : va_D A (xw ad kk V288 L289 Z) := hD
            have hMV288 : rgd bX V288 := hMV288
            have ajV288 : agr [(1, 3), (1, 6), (6, 8), (6, 9), (6, 10)] [] V278 V288 := ajV288
            have agV288 : agr [(1, 3), (1, 6), (1, 8), (6, 8), (6, 9), (6, 10)] [43, 44, 52, 53, 54, 55] V V288 := agV278.tr ajV288 (by decide) (by decide)
            have rgz284 : 0 ≤ z284.toInt ∧ z284.toInt ≤ 1 := rgz284
            have t287 : KcN (look gT (nx mx241.2 1) ((nx mx241.2 1).2.1 1)) z284.toInt (V288 1 3).toInt (fun f9 => RelC V288 L289 b gT (nx (nx mx241.2 1) 1) ∧ (V288 1 6).toInt = ((f9 : Nat) : Int) ∧ f9 < 12) := t287
            rcases t287 with ⟨q290, fx291, h292, rl293, hf294, hb295⟩ | ⟨q290, h292⟩
            · skip
              have hr296 : ∀ k, Rc gT (Crun gs (Icalled :: Irank :: IwhenI :: k)) (Crun (nx (nx mx241.2 1) 1) (Inum 0 999999999 :: k)) := fun k => Rc.go1 (hr265 k) (se_y h292)
              refine lv_if_ne (tgt := 99) hx hb dX1_readExtras_94 (by decide) (fun c297 => ?_) (fun c297 => ?_)
              · skip
                have f298 : z284.toInt ≠ 0 := b_neq rfl (by decide) c297
                refine lv_aload_n hx hb dX1_readExtras_99 rfl (lv_at hl 1 rfl) ?_
                refine lv_aload_n hx hb dX1_readExtras_100 rfl (lv_at hl 0 rfl) ?_
                refine va_get (D := D) (ci := 1) (v := .int (V288 1 6)) (fs := (xfReader ad V288 L289 Z)) (C := RX1) (T := TX1) (N := 9) hx hb hg inX1 hown hK hP 1 xgReader rfl 6 (by decide) (hg _ w310) (fun _ h9 => h9) rfl dX1_readExtras_101 ?_
                have r299 : (-1) ≤ ((V288 1 6)).toInt ∧ ((V288 1 6)).toInt ≤ 23 := hMV288 1 6
                refine va_putN (D := D) (ci := 3) (v := .int (V288 1 6)) (ty := tyX3 9) (fs := (xfComp ad V288 gi)) (C := RX3) (T := TX3) (N := 13) hx hb hg inX3 tyX3 tyX3_ok nmX3 hown hK hP hD hS (72 + gi) (xgComp hgi) rfl 9 (by decide) (hnw.use 533 n533 rfl) (fun _ h9 => h9) rfl (tyX3_ok 9 (by decide)) rfl rfl (Nat.le_of_ble_eq_true rfl) dX1_readExtras_104 (fun H locs hP hD hS => ?_)
                obtain ⟨V300, hV300⟩ : ∃ z, z = up2 V288 54 gi (V288 1 6) := ⟨_, rfl⟩
                have ew301 : (xw ad kk V288 L289 Z).set (72 + gi) ((ad (72 + gi)), .inr (3, (xfComp ad V288 gi).set 9 (.int (V288 1 6)))) = xw ad kk V300 L289 Z := by rw [hV300]; exact xpComp_whenSetting hgi
                have hP : va_P D vwCl (xw ad kk V300 L289 Z) H := by rw [← ew301]; exact hP
                have hD : va_D A (xw ad kk V300 L289 Z) := by rw [← ew301]; exact hD
                have hMV300 : rgd bX V300 := hMV288.put hV300 (show (-1) ≤ ((V288 1 6)).toInt ∧ ((V288 1 6)).toInt ≤ 11 from by omega)
                have agV300 : agr [(1, 3), (1, 6), (1, 8), (6, 8), (6, 9), (6, 10)] [43, 44, 52, 53, 54, 55] V V300 := agV288.up hV300 rfl
                refine lv_aload_n hx hb dX1_readExtras_107 rfl (lv_at hl 0 rfl) ?_
                refine lv_iconst (v := 0) hx hb dX1_readExtras_108 (by decide) ?_
                refine lv_ldc (v := 999999999) hx hb hown (hg _ w905) dX1_readExtras_109 ?_
                have rl302 : RelC V300 L289 b gT (nx (nx mx241.2 1) 1) := RelC.ag rl293 (show agr [] [54] V288 V300 from (agr.up agr.rf hV300 rfl)) (by decide) (show agL [] L289 L289 from agL.rf) (by decide)
                have r303 : Int32.toInt 0 = 0 := by decide
                have r304 : Int32.toInt 999999999 = 999999999 := by decide
                refine gA_int (gA_runV (As := [.int 0, .int 999999999]) (rest := []) (ci := 1) (q0 := 1) hx hb hml hown hg hP hD hK hS hA hnw hgk (x_takeNumber2 l D ks H.size ad kk V300 L289 Z 0 999999999 (((nx (nx mx241.2 1) 1).1 0)) hMV300 (rl302).1 (rl302).2.1.1 (show 0 ≤ (Int32.toInt 0) from by omega) (show (Int32.toInt 999999999) ≤ 999999999 from by omega)) w906 w908 w12 w162 w909 rfl xgReader hdV_yX1_takeNumber ⟨Nat.le_of_ble_eq_true rfl, Nat.le_of_ble_eq_true rfl⟩ rfl hl.1 rfl (Nat.le_of_ble_eq_true rfl) dX1_readExtras_111 ⟨Nat.le_of_ble_eq_true rfl, Nat.le_of_ble_eq_true rfl⟩) hP hD hK hS hA (fun z305 u306 H locs w307 hP hD hK hS => ?_)
                obtain ⟨V311, L312⟩ := u306
                obtain ⟨hMV311, ajV311, axL312, rgz305, t308, t309, t310⟩ := w307
                have alL312 : agL [6, 44] L L312 := agL.tr alL289 axL312 (by decide)
                have hP : va_P D vwCl (xw ad kk V311 L312 Z) H := hP
                have hD : va_D A (xw ad kk V311 L312 Z) := hD
                have hMV311 : rgd bX V311 := hMV311
                have ajV311 : agr [(1, 3), (1, 8), (6, 8), (6, 9), (6, 10)] [] V300 V311 := ajV311
                have agV311 : agr [(1, 3), (1, 6), (1, 8), (6, 8), (6, 9), (6, 10)] [43, 44, 52, 53, 54, 55] V V311 := agV300.tr ajV311 (by decide) (by decide)
                have rgz305 : 0 ≤ z305.toInt ∧ z305.toInt ≤ 1 := rgz305
                have t308 : Imp (z305.toInt = 1) ((Int32.toInt 0) ≤ (V311 1 8).toInt ∧ (V311 1 8).toInt ≤ (Int32.toInt 999999999)) := t308
                have t309 : Imp (z305.toInt = 0) (1 ≤ (V311 1 3).toInt) := t309
                have t310 : (z305.toInt = 1 ∧ (V300 12 ((nx (nx mx241.2 1) 1).1 0)).toInt = 2 ∧ (Int32.toInt 0) ≤ (L289 14 ((nx (nx mx241.2 1) 1).1 0)).toInt ∧ (L289 14 ((nx (nx mx241.2 1) 1).1 0)).toInt ≤ (Int32.toInt 999999999) ∧ CUR V311 L312 (((nx (nx mx241.2 1) 1).1 0) + 1) ∧ (V311 1 8).toInt = (L289 14 ((nx (nx mx241.2 1) 1).1 0)).toInt ∧ V311 1 3 = V300 1 3) ∨ (z305.toInt = 0 ∧ (((V300 12 ((nx (nx mx241.2 1) 1).1 0)).toInt ≠ 2 ∧ (V311 1 3).toInt = 1 + 16 * (V300 13 ((nx (nx mx241.2 1) 1).1 0)).toInt) ∨ ((V300 12 ((nx (nx mx241.2 1) 1).1 0)).toInt = 2 ∧ ((L289 14 ((nx (nx mx241.2 1) 1).1 0)).toInt < (Int32.toInt 0) ∨ (Int32.toInt 999999999) < (L289 14 ((nx (nx mx241.2 1) 1).1 0)).toInt) ∧ (V311 1 3).toInt = 4 + 16 * (V300 13 ((nx (nx mx241.2 1) 1).1 0)).toInt))) := t310
                have r313 : 0 ≤ ((V311 1 8)).toInt ∧ ((V311 1 8)).toInt ≤ 999999999 := hMV311 1 8
                have nv321 := congrArg Int64.toInt rl302.tok.2.1
                rcases t310 with ⟨q314, h315, h316, h317, k318, k319, k320⟩ | ⟨q314, ⟨h315, k318⟩ | ⟨h315, h316, k318⟩⟩
                · skip
                  have rl322 : RelC V311 L312 b gT (nx (nx (nx mx241.2 1) 1) 1) := RelC.nx1 rl302 ajV311 (by decide) axL312 (by decide) k318 k320
                  have hr323 : ∀ k, Rc gT (Crun gs (Icalled :: Irank :: IwhenI :: k)) (Crun (nx (nx (nx mx241.2 1) 1) 1) (k)) := fun k => Rc.go1 (hr296 k) (nm_y (rl302.tok.1.trans h315) (by omega) (by omega))
                  refine lv_if_ne (tgt := 119) hx hb dX1_readExtras_114 (by decide) (fun c324 => ?_) (fun c324 => ?_)
                  · skip
                    have f325 : z305.toInt ≠ 0 := b_neq rfl (by decide) c324
                    refine lv_aload_n hx hb dX1_readExtras_119 rfl (lv_at hl 1 rfl) ?_
                    refine lv_aload_n hx hb dX1_readExtras_120 rfl (lv_at hl 0 rfl) ?_
                    refine va_get (D := D) (ci := 1) (v := .int (V311 1 8)) (fs := (xfReader ad V311 L312 Z)) (C := RX1) (T := TX1) (N := 9) hx hb hg inX1 hown hK hP 1 xgReader rfl 8 (by decide) (hg _ w312) (fun _ h9 => h9) rfl dX1_readExtras_121 ?_
                    refine va_putN (D := D) (ci := 3) (v := .int (V311 1 8)) (ty := tyX3 10) (fs := (xfComp ad V311 gi)) (C := RX3) (T := TX3) (N := 13) hx hb hg inX3 tyX3 tyX3_ok nmX3 hown hK hP hD hS (72 + gi) (xgComp hgi) rfl 10 (by decide) (hnw.use 536 n536 rfl) (fun _ h9 => h9) rfl (tyX3_ok 10 (by decide)) rfl rfl (Nat.le_of_ble_eq_true rfl) dX1_readExtras_124 (fun H locs hP hD hS => ?_)
                    obtain ⟨V326, hV326⟩ : ∃ z, z = up2 V311 55 gi (V311 1 8) := ⟨_, rfl⟩
                    have ew327 : (xw ad kk V311 L312 Z).set (72 + gi) ((ad (72 + gi)), .inr (3, (xfComp ad V311 gi).set 10 (.int (V311 1 8)))) = xw ad kk V326 L312 Z := by rw [hV326]; exact xpComp_whenValue hgi
                    have hP : va_P D vwCl (xw ad kk V326 L312 Z) H := by rw [← ew327]; exact hP
                    have hD : va_D A (xw ad kk V326 L312 Z) := by rw [← ew327]; exact hD
                    have hMV326 : rgd bX V326 := hMV311.put hV326 (i_full _)
                    have agV326 : agr [(1, 3), (1, 6), (1, 8), (6, 8), (6, 9), (6, 10)] [43, 44, 52, 53, 54, 55] V V326 := agV311.up hV326 rfl
                    refine lv_iconst (v := 1) hx hb dX1_readExtras_127 (by decide) ?_
                    have rl328 : RelC V326 L312 b gT (nx (nx (nx mx241.2 1) 1) 1) := RelC.ag rl322 (show agr [] [55] V311 V326 from (agr.up agr.rf hV326 rfl)) (by decide) (show agL [] L312 L312 from agL.rf) (by decide)
                    exact W.zret (v := 1) hx hb hr rfl (fun t ht hW => ⟨⟨1, (V326, L312), rfl, ⟨hMV326, agV326, alL312, (by decide), (Or.inl ⟨rfl, (nx (nx (nx mx241.2 1) 1) 1), hr323, rl328, keepS.le (keepS.tr (keepS.tr (keepS.tr (keepS.tr (keepS.rf : keepS gs 0 gs) kp246) (keepS.n1 1)) (keepS.n1 1)) (keepS.n1 1)) (by decide)⟩)⟩, by rw [ht]; exact hP, va_K.moved hW.alike hK, hD⟩, hS.F ht⟩) hS.2.2 dX1_readExtras_128
                  · skip
                    have f329 : z305.toInt = 0 := b_eq rfl (by decide) c324
                    exfalso; first | omega | ((try (have i_t309 := Imp.go t309 (by omega))); (try (have i_t308 := Imp.go t308 (by omega))); (try (have i_t308 := Imp.go t308 (by omega))); (try (have i_t309 := Imp.go t309 (by omega))); omega)
                · skip
                  have hb330 : ∀ k, Rc gT (Crun gs (Icalled :: Irank :: IwhenI :: k)) (Cbad (V311 1 3).toInt) := fun k => Rc.go1 (hr296 k) ((nm_1 (fun h9 => h315 (rl302.tok.1.symm.trans h9))).trans (fl_eq rl302.tok.2.2 k318))
                  refine lv_if_ne (tgt := 119) hx hb dX1_readExtras_114 (by decide) (fun c331 => ?_) (fun c331 => ?_)
                  · skip
                    have f332 : z305.toInt ≠ 0 := b_neq rfl (by decide) c331
                    exfalso; first | omega | ((try (have i_t309 := Imp.go t309 (by omega))); (try (have i_t308 := Imp.go t308 (by omega))); (try (have i_t308 := Imp.go t308 (by omega))); (try (have i_t309 := Imp.go t309 (by omega))); omega)
                  · skip
                    have f333 : z305.toInt = 0 := b_eq rfl (by decide) c331
                    refine lv_iconst (v := 0) hx hb dX1_readExtras_117 (by decide) ?_
                    exact W.zret (v := 0) hx hb hr rfl (fun t ht hW => ⟨⟨0, (V311, L312), rfl, ⟨hMV311, agV311, alL312, (by decide), (Or.inr ⟨rfl, hb330⟩)⟩, by rw [ht]; exact hP, va_K.moved hW.alike hK, hD⟩, hS.F ht⟩) hS.2.2 dX1_readExtras_118
                · skip
                  have hb334 : ∀ k, Rc gT (Crun gs (Icalled :: Irank :: IwhenI :: k)) (Cbad (V311 1 3).toInt) := fun k => Rc.go1 (hr296 k) ((nm_4 (rl302.tok.1.trans h315) (by omega)).trans (fl_eq rl302.tok.2.2 k318))
                  refine lv_if_ne (tgt := 119) hx hb dX1_readExtras_114 (by decide) (fun c335 => ?_) (fun c335 => ?_)
                  · skip
                    have f336 : z305.toInt ≠ 0 := b_neq rfl (by decide) c335
                    exfalso; first | omega | ((try (have i_t309 := Imp.go t309 (by omega))); (try (have i_t308 := Imp.go t308 (by omega))); (try (have i_t308 := Imp.go t308 (by omega))); (try (have i_t309 := Imp.go t309 (by omega))); omega)
                  · skip
                    have f337 : z305.toInt = 0 := b_eq rfl (by decide) c335
                    refine lv_iconst (v := 0) hx hb dX1_readExtras_117 (by decide) ?_
                    exact W.zret (v := 0) hx hb hr rfl (fun t ht hW => ⟨⟨0, (V311, L312), rfl, ⟨hMV311, agV311, alL312, (by decide), (Or.inr ⟨rfl, hb334⟩)⟩, by rw [ht]; exact hP, va_K.moved hW.alike hK, hD⟩, hS.F ht⟩) hS.2.2 dX1_readExtras_118
              · skip
                have f338 : z284.toInt = 0 := b_eq rfl (by decide) c297
                exfalso; omega
            · skip
              have hb339 : ∀ k, Rc gT (Crun gs (Icalled :: Irank :: IwhenI :: k)) (Cbad (V288 1 3).toInt) := fun k => Rc.go1 (hr265 k) (se_b h292)
              refine lv_if_ne (tgt := 99) hx hb dX1_readExtras_94 (by decide) (fun c340 => ?_) (fun c340 => ?_)
              · skip
                have f341 : z284.toInt ≠ 0 := b_neq rfl (by decide) c340
                exfalso; omega
              · skip
                have f342 : z284.toInt = 0 := b_eq rfl (by decide) c340
                refine lv_iconst (v := 0) hx hb dX1_readExtras_97 (by decide) ?_
                exact W.zret (v := 0) hx hb hr rfl (fun t ht hW => ⟨⟨0, (V288, L289), rfl, ⟨hMV288, agV288, alL289, (by decide), (Or.inr ⟨rfl, hb339⟩)⟩, by rw [ht]; exact hP, va_K.moved hW.alike hK, hD⟩, hS.F ht⟩) hS.2.2 dX1_readExtras_98
        · skip
          have f343 : ((V238 6 9)).toInt = 134 := b_eq rfl (by decide) c253
          refine lv_aload_n hx hb dX1_readExtras_43 rfl (lv_at hl 0 rfl) ?_
          refine va_get (D := D) (ci := 1) (v := .ref (ad 6)) (fs := (xfReader ad V251 L239 Z)) (C := RX1) (T := TX1) (N := 9) hx hb hg inX1 hown hK hP 1 xgReader rfl 0 (by decide) (hg _ w304) (fun _ h9 => h9) rfl dX1_readExtras_44 ?_
          have rl344 : RelC V251 L239 b gT mx241.2 := RelC.ag rl243 (show agr [] [52] V238 V251 from (agr.up agr.rf hV251 rfl)) (by decide) (show agL [] L239 L239 from agL.rf) (by decide)
          have kd345 : gT.1 (mx241.2.1 0) = ((V238 6 9)).toInt := (RelC.kd rl344).trans (congrArg Int32.toInt (up2_o hV251 (by decide)))
          have hr346 : ∀ k, Rc gT (Crun gs (Icalled :: Irank :: IwhenI :: k)) (Crun (nx mx241.2 1) (Inum 0 9 :: IwhenI :: k)) := fun k => Rc.go1 (hr247 k) (rank_y  (kd345.trans f343))
          have l8347 := RelC.l8 rl344
          have pq348 : (V251 6 8).toInt = ((V238 6 8)).toInt := congrArg Int32.toInt (up2_o hV251 (by decide))
          have r349 : 0 ≤ ((V238 6 8)).toInt ∧ ((V238 6 8)).toInt ≤ 4000 := hMV238 6 8
          have pq350 : (V251 6 7).toInt = ((V 6 7)).toInt := congrArg Int32.toInt ((up2_o hV251 (by decide)).trans (ajV238 6 7 rfl))
          have r351 : 0 ≤ ((V 6 7)).toInt ∧ ((V 6 7)).toInt ≤ 4000 := hMV 6 7
          have pq352 : (V251 6 9).toInt = ((V238 6 9)).toInt := congrArg Int32.toInt (up2_o hV251 (by decide))
          have lk353 := RelC.lk rl344 (show (V251 6 9).toInt ≠ 0 from by omega)
          refine gA_void (gA_runV (As := []) (rest := []) (ci := 9) (q0 := 6) hx hb hml hown hg hP hD hK hS hA hnw hgk (x_next2 l D ks H.size ad kk V251 L239 Z  hMV251 (show (V251 6 8).toInt ≤ (V251 6 7).toInt from by omega)) w871 w852 w853 w157 w854 rfl xgTape hdV_yX9_next ⟨Nat.le_of_ble_eq_true rfl, Nat.le_of_ble_eq_true rfl⟩ rfl hl.1 rfl (Nat.le_of_ble_eq_true rfl) dX1_readExtras_47 ⟨Nat.le_of_ble_eq_true rfl, Nat.le_of_ble_eq_true rfl⟩) hP hD hK hS hA (fun u355 H locs w356 hP hD hK hS => ?_)
          obtain ⟨V359, L360⟩ := u355
          obtain ⟨hMV359, ajV359, axL360, t357, t358⟩ := w356
          have alL360 : agL [6, 44] L L360 := agL.tr alL239 axL360 (by decide)
          have hP : va_P D vwCl (xw ad kk V359 L360 Z) H := hP
          have hD : va_D A (xw ad kk V359 L360 Z) := hD
          have hMV359 : rgd bX V359 := hMV359
          have ajV359 : agr [(6, 8), (6, 9), (6, 10)] [] V251 V359 := ajV359
          have agV359 : agr [(1, 3), (1, 6), (1, 8), (6, 8), (6, 9), (6, 10)] [43, 44, 52, 53, 54, 55] V V359 := agV251.tr ajV359 (by decide) (by decide)
          have t357 : (V359 6 8).toInt ≤ (V359 6 7).toInt := t357
          have t358 : CUR V359 L360 (Int32.toNatClampNeg (V251 6 8)) := t358
          have r361 : 0 ≤ ((V359 6 8)).toInt ∧ ((V359 6 8)).toInt ≤ 4000 := hMV359 6 8
          have pq362 : (V359 6 7).toInt = ((V 6 7)).toInt := congrArg Int32.toInt ((ajV359 6 7 rfl).trans ((up2_o hV251 (by decide)).trans (ajV238 6 7 rfl)))
          have rl363 : RelC V359 L360 b gT (nx mx241.2 1) := RelC.nx1 rl344 ajV359 (by decide) axL360 (by decide) (by rw [← lk353]; exact t358) (ajV359 1 3 rfl)
          refine lv_aload_n hx hb dX1_readExtras_50 rfl (lv_at hl 0 rfl) ?_
          refine lv_iconst (v := 0) hx hb dX1_readExtras_51 (by decide) ?_
          refine lv_bipush (v := 9) hx hb dX1_readExtras_52 (by decide) ?_
          have r364 : Int32.toInt 0 = 0 := by decide
          have r365 : Int32.toInt 9 = 9 := by decide
          refine gA_int (gA_runV (As := [.int 0, .int 9]) (rest := []) (ci := 1) (q0 := 1) hx hb hml hown hg hP hD hK hS hA hnw hgk (x_takeNumber2 l D ks H.size ad kk V359 L360 Z 0 9 (((nx mx241.2 1).1 0)) hMV359 (rl363).1 (rl363).2.1.1 (show 0 ≤ (Int32.toInt 0) from by omega) (show (Int32.toInt 9) ≤ 999999999 from by omega)) w906 w908 w12 w162 w909 rfl xgReader hdV_yX1_takeNumber ⟨Nat.le_of_ble_eq_true rfl, Nat.le_of_ble_eq_true rfl⟩ rfl hl.1 rfl (Nat.le_of_ble_eq_true rfl) dX1_readExtras_54 ⟨Nat.le_of_ble_eq_true rfl, Nat.le_of_ble_eq_true rfl⟩) hP hD hK hS hA (fun z366 u367 H locs w368 hP hD hK hS => ?_)
          obtain ⟨V372, L373⟩ := u367
          obtain ⟨hMV372, ajV372, axL373, rgz366, t369, t370, t371⟩ := w368
          have alL373 : agL [6, 44] L L373 := agL.tr alL360 axL373 (by decide)
          have hP : va_P D vwCl (xw ad kk V372 L373 Z) H := hP
          have hD : va_D A (xw ad kk V372 L373 Z) := hD
          have hMV372 : rgd bX V372 := hMV372
          have ajV372 : agr [(1, 3), (1, 8), (6, 8), (6, 9), (6, 10)] [] V359 V372 := ajV372
          have agV372 : agr [(1, 3), (1, 6), (1, 8), (6, 8), (6, 9), (6, 10)] [43, 44, 52, 53, 54, 55] V V372 := agV359.tr ajV372 (by decide) (by decide)
          have rgz366 : 0 ≤ z366.toInt ∧ z366.toInt ≤ 1 := rgz366
          have t369 : Imp (z366.toInt = 1) ((Int32.toInt 0) ≤ (V372 1 8).toInt ∧ (V372 1 8).toInt ≤ (Int32.toInt 9)) := t369
          have t370 : Imp (z366.toInt = 0) (1 ≤ (V372 1 3).toInt) := t370
          have t371 : (z366.toInt = 1 ∧ (V359 12 ((nx mx241.2 1).1 0)).toInt = 2 ∧ (Int32.toInt 0) ≤ (L360 14 ((nx mx241.2 1).1 0)).toInt ∧ (L360 14 ((nx mx241.2 1).1 0)).toInt ≤ (Int32.toInt 9) ∧ CUR V372 L373 (((nx mx241.2 1).1 0) + 1) ∧ (V372 1 8).toInt = (L360 14 ((nx mx241.2 1).1 0)).toInt ∧ V372 1 3 = V359 1 3) ∨ (z366.toInt = 0 ∧ (((V359 12 ((nx mx241.2 1).1 0)).toInt ≠ 2 ∧ (V372 1 3).toInt = 1 + 16 * (V359 13 ((nx mx241.2 1).1 0)).toInt) ∨ ((V359 12 ((nx mx241.2 1).1 0)).toInt = 2 ∧ ((L360 14 ((nx mx241.2 1).1 0)).toInt < (Int32.toInt 0) ∨ (Int32.toInt 9) < (L360 14 ((nx mx241.2 1).1 0)).toInt) ∧ (V372 1 3).toInt = 4 + 16 * (V359 13 ((nx mx241.2 1).1 0)).toInt))) := t371
          have r374 : 0 ≤ ((V372 1 8)).toInt ∧ ((V372 1 8)).toInt ≤ 999999999 := hMV372 1 8
          have nv382 := congrArg Int64.toInt rl363.tok.2.1
          rcases t371 with ⟨q375, h376, h377, h378, k379, k380, k381⟩ | ⟨q375, ⟨h376, k379⟩ | ⟨h376, h377, k379⟩⟩
          · skip
            have rl383 : RelC V372 L373 b gT (nx (nx mx241.2 1) 1) := RelC.nx1 rl363 ajV372 (by decide) axL373 (by decide) k379 k381
            have hr384 : ∀ k, Rc gT (Crun gs (Icalled :: Irank :: IwhenI :: k)) (Crun (nx (nx mx241.2 1) 1) (IwhenI :: k)) := fun k => Rc.go1 (hr346 k) (nm_y (rl363.tok.1.trans h376) (by omega) (by omega))
            refine lv_if_ne (tgt := 62) hx hb dX1_readExtras_57 (by decide) (fun c385 => ?_) (fun c385 => ?_)
            · skip
              have f386 : z366.toInt ≠ 0 := b_neq rfl (by decide) c385
              refine lv_aload_n hx hb dX1_readExtras_62 rfl (lv_at hl 1 rfl) ?_
              refine lv_aload_n hx hb dX1_readExtras_63 rfl (lv_at hl 0 rfl) ?_
              refine va_get (D := D) (ci := 1) (v := .int (V372 1 8)) (fs := (xfReader ad V372 L373 Z)) (C := RX1) (T := TX1) (N := 9) hx hb hg inX1 hown hK hP 1 xgReader rfl 8 (by decide) (hg _ w312) (fun _ h9 => h9) rfl dX1_readExtras_64 ?_
              refine va_putN (D := D) (ci := 3) (v := .int (V372 1 8)) (ty := tyX3 8) (fs := (xfComp ad V372 gi)) (C := RX3) (T := TX3) (N := 13) hx hb hg inX3 tyX3 tyX3_ok nmX3 hown hK hP hD hS (72 + gi) (xgComp hgi) rfl 8 (by decide) (hnw.use 528 n528 rfl) (fun _ h9 => h9) rfl (tyX3_ok 8 (by decide)) rfl rfl (Nat.le_of_ble_eq_true rfl) dX1_readExtras_67 (fun H locs hP hD hS => ?_)
              obtain ⟨V387, hV387⟩ : ∃ z, z = up2 V372 53 gi (V372 1 8) := ⟨_, rfl⟩
              have ew388 : (xw ad kk V372 L373 Z).set (72 + gi) ((ad (72 + gi)), .inr (3, (xfComp ad V372 gi).set 8 (.int (V372 1 8)))) = xw ad kk V387 L373 Z := by rw [hV387]; exact xpComp_rank hgi
              have hP : va_P D vwCl (xw ad kk V387 L373 Z) H := by rw [← ew388]; exact hP
              have hD : va_D A (xw ad kk V387 L373 Z) := by rw [← ew388]; exact hD
              have hMV387 : rgd bX V387 := hMV372.put hV387 (i_full _)
              have agV387 : agr [(1, 3), (1, 6), (1, 8), (6, 8), (6, 9), (6, 10)] [43, 44, 52, 53, 54, 55] V V387 := agV372.up hV387 rfl
              refine lv_aload_n hx hb dX1_readExtras_70 rfl (lv_at hl 0 rfl) ?_
              refine va_get (D := D) (ci := 1) (v := .ref (ad 6)) (fs := (xfReader ad V387 L373 Z)) (C := RX1) (T := TX1) (N := 9) hx hb hg inX1 hown hK hP 1 xgReader rfl 0 (by decide) (hg _ w304) (fun _ h9 => h9) rfl dX1_readExtras_71 ?_
              refine va_getN (D := D) (ci := 9) (v := .int (V387 6 9)) (fs := (xfTape ad V387 L373 Z)) (C := RX9) (T := TX9) (N := 12) hx hb hg inX9 hown hK hP 6 xgTape rfl 9 (by decide) (hnw.use 262 n262 rfl) (fun _ h9 => h9) rfl dX1_readExtras_74 ?_
              refine g_top (v := (V372 6 9)) (up2_o hV387 (by decide)) ?_
              refine lv_sipush (v := 135) hx hb dX1_readExtras_77 (by decide) ?_
              refine lv_icmp_ne (tgt := 127) hx hb dX1_readExtras_80 (by decide) (fun c389 => ?_) (fun c389 => ?_)
              · skip
                have f390 : ((V372 6 9)).toInt ≠ 135 := b_neq rfl (by decide) c389
                refine lv_iconst (v := 1) hx hb dX1_readExtras_127 (by decide) ?_
                have rl391 : RelC V387 L373 b gT (nx (nx mx241.2 1) 1) := RelC.ag rl383 (show agr [] [53] V372 V387 from (agr.up agr.rf hV387 rfl)) (by decide) (show agL [] L373 L373 from agL.rf) (by decide)
                have kd392 : gT.1 ((nx (nx mx241.2 1) 1).1 0) = ((V372 6 9)).toInt := (RelC.kd rl391).trans (congrArg Int32.toInt (up2_o hV387 (by decide)))
                have hr393 : ∀ k, Rc gT (Crun gs (Icalled :: Irank :: IwhenI :: k)) (Crun (nx (nx mx241.2 1) 1) (k)) := fun k => Rc.go1 (hr384 k) (when_n  (fun h9 => f390 (kd392.symm.trans h9)))
                exact W.zret (v := 1) hx hb hr rfl (fun t ht hW => ⟨⟨1, (V387, L373), rfl, ⟨hMV387, agV387, alL373, (by decide), (Or.inl ⟨rfl, (nx (nx mx241.2 1) 1), hr393, rl391, keepS.le (keepS.tr (keepS.tr (keepS.tr (keepS.rf : keepS gs 0 gs) kp246) (keepS.n1 1)) (keepS.n1 1)) (by decide)⟩)⟩, by rw [ht]; exact hP, va_K.moved hW.alike hK, hD⟩, hS.F ht⟩) hS.2.2 dX1_readExtras_128
              · skip
                have f394 : ((V372 6 9)).toInt = 135 := b_eq rfl (by decide) c389
                refine lv_aload_n hx hb dX1_readExtras_83 rfl (lv_at hl 0 rfl) ?_
                refine va_get (D := D) (ci := 1) (v := .ref (ad 6)) (fs := (xfReader ad V387 L373 Z)) (C := RX1) (T := TX1) (N := 9) hx hb hg inX1 hown hK hP 1 xgReader rfl 0 (by decide) (hg _ w304) (fun _ h9 => h9) rfl dX1_readExtras_84 ?_
                have rl395 : RelC V387 L373 b gT (nx (nx mx241.2 1) 1) := RelC.ag rl383 (show agr [] [53] V372 V387 from (agr.up agr.rf hV387 rfl)) (by decide) (show agL [] L373 L373 from agL.rf) (by decide)
                have kd396 : gT.1 ((nx (nx mx241.2 1) 1).1 0) = ((V372 6 9)).toInt := (RelC.kd rl395).trans (congrArg Int32.toInt (up2_o hV387 (by decide)))
                have hr397 : ∀ k, Rc gT (Crun gs (Icalled :: Irank :: IwhenI :: k)) (Crun (nx (nx (nx mx241.2 1) 1) 1) (Isetting :: Inum 0 999999999 :: k)) := fun k => Rc.go1 (hr384 k) (when_y  (kd396.trans f394))
                have l8398 := RelC.l8 rl395
                have pq399 : (V387 6 8).toInt = ((V372 6 8)).toInt := congrArg Int32.toInt (up2_o hV387 (by decide))
                have r400 : 0 ≤ ((V372 6 8)).toInt ∧ ((V372 6 8)).toInt ≤ 4000 := hMV372 6 8
                have pq401 : (V387 6 7).toInt = ((V 6 7)).toInt := congrArg Int32.toInt ((up2_o hV387 (by decide)).trans ((ajV372 6 7 rfl).trans ((ajV359 6 7 rfl).trans ((up2_o hV251 (by decide)).trans (ajV238 6 7 rfl)))))
                have pq402 : (V387 6 9).toInt = ((V372 6 9)).toInt := congrArg Int32.toInt (up2_o hV387 (by decide))
                have lk403 := RelC.lk rl395 (show (V387 6 9).toInt ≠ 0 from by omega)
                refine gA_void (gA_runV (As := []) (rest := []) (ci := 9) (q0 := 6) hx hb hml hown hg hP hD hK hS hA hnw hgk (x_next2 l D ks H.size ad kk V387 L373 Z  hMV387 (show (V387 6 8).toInt ≤ (V387 6 7).toInt from by first | omega | ((try (have i_t370 := Imp.go t370 (by omega))); (try (have i_t369 := Imp.go t369 (by omega))); (try (have i_t369 := Imp.go t369 (by omega))); (try (have i_t370 := Imp.go t370 (by omega))); omega))) w871 w852 w853 w157 w854 rfl xgTape hdV_yX9_next ⟨Nat.le_of_ble_eq_true rfl, Nat.le_of_ble_eq_true rfl⟩ rfl hl.1 rfl (Nat.le_of_ble_eq_true rfl) dX1_readExtras_87 ⟨Nat.le_of_ble_eq_true rfl, Nat.le_of_ble_eq_true rfl⟩) hP hD hK hS hA (fun u405 H locs w406 hP hD hK hS => ?_)
                obtain ⟨V409, L410⟩ := u405
                obtain ⟨hMV409, ajV409, axL410, t407, t408⟩ := w406
                have alL410 : agL [6, 44] L L410 := agL.tr alL373 axL410 (by decide)
                have hP : va_P D vwCl (xw ad kk V409 L410 Z) H := hP
                have hD : va_D A (xw ad kk V409 L410 Z) := hD
                have hMV409 : rgd bX V409 := hMV409
                have ajV409 : agr [(6, 8), (6, 9), (6, 10)] [] V387 V409 := ajV409
                have agV409 : agr [(1, 3), (1, 6), (1, 8), (6, 8), (6, 9), (6, 10)] [43, 44, 52, 53, 54, 55] V V409 := agV387.tr ajV409 (by decide) (by decide)
                have t407 : (V409 6 8).toInt ≤ (V409 6 7).toInt := t407
                have t408 : CUR V409 L410 (Int32.toNatClampNeg (V387 6 8)) := t408
                have r411 : 0 ≤ ((V409 6 8)).toInt ∧ ((V409 6 8)).toInt ≤ 4000 := hMV409 6 8
                have pq412 : (V409 6 7).toInt = ((V 6 7)).toInt := congrArg Int32.toInt ((ajV409 6 7 rfl).trans ((up2_o hV387 (by decide)).trans ((ajV372 6 7 rfl).trans ((ajV359 6 7 rfl).trans ((up2_o hV251 (by decide)).trans (ajV238 6 7 rfl))))))
                have rl413 : RelC V409 L410 b gT (nx (nx (nx mx241.2 1) 1) 1) := RelC.nx1 rl395 ajV409 (by decide) axL410 (by decide) (by rw [← lk403]; exact t408) (ajV409 1 3 rfl)
                refine lv_aload_n hx hb dX1_readExtras_90 rfl (lv_at hl 0 rfl) ?_
                have pq414 : (V409 1 1).toInt = ((V 1 1)).toInt := congrArg Int32.toInt ((ajV409 1 1 rfl).trans ((up2_o hV387 (by decide)).trans ((ajV372 1 1 rfl).trans ((ajV359 1 1 rfl).trans ((up2_o hV251 (by decide)).trans (ajV238 1 1 rfl))))))
                refine gA_int (gA_runV (As := []) (rest := []) (ci := 1) (q0 := 1) hx hb hml hown hg hP hD hK hS hA hnw hgk (x_takeSetting3 l D ks H.size ad kk V409 L410 Z (b) (gT) ((nx (nx (nx mx241.2 1) 1) 1)) hMV409 (show b < 2 from by first | omega | ((try (have i_t370 := Imp.go t370 (by omega))); (try (have i_t369 := Imp.go t369 (by omega))); (try (have i_t369 := Imp.go t369 (by omega))); (try (have i_t370 := Imp.go t370 (by omega))); omega)) (show (V409 1 1).toInt = (b : Int) from by first | omega | ((try (have i_t370 := Imp.go t370 (by omega))); (try (have i_t369 := Imp.go t369 (by omega))); (try (have i_t369 := Imp.go t369 (by omega))); (try (have i_t370 := Imp.go t370 (by omega))); omega)) rl413) w931 w933 w17 w162 w934 rfl xgReader hdV_yX1_takeSetting ⟨Nat.le_of_ble_eq_true rfl, Nat.le_of_ble_eq_true rfl⟩ rfl hl.1 rfl (Nat.le_of_ble_eq_true rfl) dX1_readExtras_91 ⟨Nat.le_of_ble_eq_true rfl, Nat.le_of_ble_eq_true rfl⟩) hP hD hK hS hA (fun z415 u416 H locs w417 hP hD hK hS => ?_)
                obtain ⟨V419, L420⟩ := u416
                obtain ⟨hMV419, ajV419, axL420, rgz415, t418⟩ := w417
                have alL420 : agL [6, 44] L L420 := agL.tr alL410 axL420 (by decide)
                have hP : va_P D vwCl (xw ad kk V419 L420 Z) H := hP
                have hD : va_D A (xw ad kk V419 L420 Z) := hD
                have hMV419 : rgd bX V419 := hMV419
                have ajV419 : agr [(1, 3), (1, 6), (6, 8), (6, 9), (6, 10)] [] V409 V419 := ajV419
                have agV419 : agr [(1, 3), (1, 6), (1, 8), (6, 8), (6, 9), (6, 10)] [43, 44, 52, 53, 54, 55] V V419 := agV409.tr ajV419 (by decide) (by decide)
                have rgz415 : 0 ≤ z415.toInt ∧ z415.toInt ≤ 1 := rgz415
                have t418 : KcN (look gT (nx (nx (nx mx241.2 1) 1) 1) ((nx (nx (nx mx241.2 1) 1) 1).2.1 1)) z415.toInt (V419 1 3).toInt (fun f9 => RelC V419 L420 b gT (nx (nx (nx (nx mx241.2 1) 1) 1) 1) ∧ (V419 1 6).toInt = ((f9 : Nat) : Int) ∧ f9 < 12) := t418
                rcases t418 with ⟨q421, fx422, h423, rl424, hf425, hb426⟩ | ⟨q421, h423⟩
                · skip
                  have hr427 : ∀ k, Rc gT (Crun gs (Icalled :: Irank :: IwhenI :: k)) (Crun (nx (nx (nx (nx mx241.2 1) 1) 1) 1) (Inum 0 999999999 :: k)) := fun k => Rc.go1 (hr397 k) (se_y h423)
                  refine lv_if_ne (tgt := 99) hx hb dX1_readExtras_94 (by decide) (fun c428 => ?_) (fun c428 => ?_)
                  · skip
                    have f429 : z415.toInt ≠ 0 := b_neq rfl (by decide) c428
                    refine lv_aload_n hx hb dX1_readExtras_99 rfl (lv_at hl 1 rfl) ?_
                    refine lv_aload_n hx hb dX1_readExtras_100 rfl (lv_at hl 0 rfl) ?_
                    refine va_get (D := D) (ci := 1) (v := .int (V419 1 6)) (fs := (xfReader ad V419 L420 Z)) (C := RX1) (T := TX1) (N := 9) hx hb hg inX1 hown hK hP 1 xgReader rfl 6 (by decide) (hg _ w310) (fun _ h9 => h9) rfl dX1_readExtras_101 ?_
                    have r430 : (-1) ≤ ((V419 1 6)).toInt ∧ ((V419 1 6)).toInt ≤ 23 := hMV419 1 6
                    refine va_putN (D := D) (ci := 3) (v := .int (V419 1 6)) (ty := tyX3 9) (fs := (xfComp ad V419 gi)) (C := RX3) (T := TX3) (N := 13) hx hb hg inX3 tyX3 tyX3_ok nmX3 hown hK hP hD hS (72 + gi) (xgComp hgi) rfl 9 (by decide) (hnw.use 533 n533 rfl) (fun _ h9 => h9) rfl (tyX3_ok 9 (by decide)) rfl rfl (Nat.le_of_ble_eq_true rfl) dX1_readExtras_104 (fun H locs hP hD hS => ?_)
                    obtain ⟨V431, hV431⟩ : ∃ z, z = up2 V419 54 gi (V419 1 6) := ⟨_, rfl⟩
                    have ew432 : (xw ad kk V419 L420 Z).set (72 + gi) ((ad (72 + gi)), .inr (3, (xfComp ad V419 gi).set 9 (.int (V419 1 6)))) = xw ad kk V431 L420 Z := by rw [hV431]; exact xpComp_whenSetting hgi
                    have hP : va_P D vwCl (xw ad kk V431 L420 Z) H := by rw [← ew432]; exact hP
                    have hD : va_D A (xw ad kk V431 L420 Z) := by rw [← ew432]; exact hD
                    have hMV431 : rgd bX V431 := hMV419.put hV431 (show (-1) ≤ ((V419 1 6)).toInt ∧ ((V419 1 6)).toInt ≤ 11 from by first | omega | ((try (have i_t370 := Imp.go t370 (by omega))); (try (have i_t369 := Imp.go t369 (by omega))); (try (have i_t369 := Imp.go t369 (by omega))); (try (have i_t370 := Imp.go t370 (by omega))); omega))
                    have agV431 : agr [(1, 3), (1, 6), (1, 8), (6, 8), (6, 9), (6, 10)] [43, 44, 52, 53, 54, 55] V V431 := agV419.up hV431 rfl
                    refine lv_aload_n hx hb dX1_readExtras_107 rfl (lv_at hl 0 rfl) ?_
                    refine lv_iconst (v := 0) hx hb dX1_readExtras_108 (by decide) ?_
                    refine lv_ldc (v := 999999999) hx hb hown (hg _ w905) dX1_readExtras_109 ?_
                    have rl433 : RelC V431 L420 b gT (nx (nx (nx (nx mx241.2 1) 1) 1) 1) := RelC.ag rl424 (show agr [] [54] V419 V431 from (agr.up agr.rf hV431 rfl)) (by decide) (show agL [] L420 L420 from agL.rf) (by decide)
                    have r434 : Int32.toInt 999999999 = 999999999 := by decide
                    refine gA_int (gA_runV (As := [.int 0, .int 999999999]) (rest := []) (ci := 1) (q0 := 1) hx hb hml hown hg hP hD hK hS hA hnw hgk (x_takeNumber2 l D ks H.size ad kk V431 L420 Z 0 999999999 (((nx (nx (nx (nx mx241.2 1) 1) 1) 1).1 0)) hMV431 (rl433).1 (rl433).2.1.1 (show 0 ≤ (Int32.toInt 0) from by first | omega | ((try (have i_t370 := Imp.go t370 (by omega))); (try (have i_t369 := Imp.go t369 (by omega))); (try (have i_t369 := Imp.go t369 (by omega))); (try (have i_t370 := Imp.go t370 (by omega))); omega)) (show (Int32.toInt 999999999) ≤ 999999999 from by first | omega | ((try (have i_t370 := Imp.go t370 (by omega))); (try (have i_t369 := Imp.go t369 (by omega))); (try (have i_t369 := Imp.go t369 (by omega))); (try (have i_t370 := Imp.go t370 (by omega))); omega))) w906 w908 w12 w162 w909 rfl xgReader hdV_yX1_takeNumber ⟨Nat.le_of_ble_eq_true rfl, Nat.le_of_ble_eq_true rfl⟩ rfl hl.1 rfl (Nat.le_of_ble_eq_true rfl) dX1_readExtras_111 ⟨Nat.le_of_ble_eq_true rfl, Nat.le_of_ble_eq_true rfl⟩) hP hD hK hS hA (fun z435 u436 H locs w437 hP hD hK hS => ?_)
                    obtain ⟨V441, L442⟩ := u436
                    obtain ⟨hMV441, ajV441, axL442, rgz435, t438, t439, t440⟩ := w437
                    have alL442 : agL [6, 44] L L442 := agL.tr alL420 axL442 (by decide)
                    have hP : va_P D vwCl (xw ad kk V441 L442 Z) H := hP
                    have hD : va_D A (xw ad kk V441 L442 Z) := hD
                    have hMV441 : rgd bX V441 := hMV441
                    have ajV441 : agr [(1, 3), (1, 8), (6, 8), (6, 9), (6, 10)] [] V431 V441 := ajV441
                    have agV441 : agr [(1, 3), (1, 6), (1, 8), (6, 8), (6, 9), (6, 10)] [43, 44, 52, 53, 54, 55] V V441 := agV431.tr ajV441 (by decide) (by decide)
                    have rgz435 : 0 ≤ z435.toInt ∧ z435.toInt ≤ 1 := rgz435
                    have t438 : Imp (z435.toInt = 1) ((Int32.toInt 0) ≤ (V441 1 8).toInt ∧ (V441 1 8).toInt ≤ (Int32.toInt 999999999)) := t438
                    have t439 : Imp (z435.toInt = 0) (1 ≤ (V441 1 3).toInt) := t439
                    have t440 : (z435.toInt = 1 ∧ (V431 12 ((nx (nx (nx (nx mx241.2 1) 1) 1) 1).1 0)).toInt = 2 ∧ (Int32.toInt 0) ≤ (L420 14 ((nx (nx (nx (nx mx241.2 1) 1) 1) 1).1 0)).toInt ∧ (L420 14 ((nx (nx (nx (nx mx241.2 1) 1) 1) 1).1 0)).toInt ≤ (Int32.toInt 999999999) ∧ CUR V441 L442 (((nx (nx (nx (nx mx241.2 1) 1) 1) 1).1 0) + 1) ∧ (V441 1 8).toInt = (L420 14 ((nx (nx (nx (nx mx241.2 1) 1) 1) 1).1 0)).toInt ∧ V441 1 3 = V431 1 3) ∨ (z435.toInt = 0 ∧ (((V431 12 ((nx (nx (nx (nx mx241.2 1) 1) 1) 1).1 0)).toInt ≠ 2 ∧ (V441 1 3).toInt = 1 + 16 * (V431 13 ((nx (nx (nx (nx mx241.2 1) 1) 1) 1).1 0)).toInt) ∨ ((V431 12 ((nx (nx (nx (nx mx241.2 1) 1) 1) 1).1 0)).toInt = 2 ∧ ((L420 14 ((nx (nx (nx (nx mx241.2 1) 1) 1) 1).1 0)).toInt < (Int32.toInt 0) ∨ (Int32.toInt 999999999) < (L420 14 ((nx (nx (nx (nx mx241.2 1) 1) 1) 1).1 0)).toInt) ∧ (V441 1 3).toInt = 4 + 16 * (V431 13 ((nx (nx (nx (nx mx241.2 1) 1) 1) 1).1 0)).toInt))) := t440
                    have r443 : 0 ≤ ((V441 1 8)).toInt ∧ ((V441 1 8)).toInt ≤ 999999999 := hMV441 1 8
                    have nv451 := congrArg Int64.toInt rl433.tok.2.1
                    rcases t440 with ⟨q444, h445, h446, h447, k448, k449, k450⟩ | ⟨q444, ⟨h445, k448⟩ | ⟨h445, h446, k448⟩⟩
                    · skip
                      have rl452 : RelC V441 L442 b gT (nx (nx (nx (nx (nx mx241.2 1) 1) 1) 1) 1) := RelC.nx1 rl433 ajV441 (by decide) axL442 (by decide) k448 k450
                      have hr453 : ∀ k, Rc gT (Crun gs (Icalled :: Irank :: IwhenI :: k)) (Crun (nx (nx (nx (nx (nx mx241.2 1) 1) 1) 1) 1) (k)) := fun k => Rc.go1 (hr427 k) (nm_y (rl433.tok.1.trans h445) (by omega) (by omega))
                      refine lv_if_ne (tgt := 119) hx hb dX1_readExtras_114 (by decide) (fun c454 => ?_) (fun c454 => ?_)
                      · skip
                        have f455 : z435.toInt ≠ 0 := b_neq rfl (by decide) c454
                        refine lv_aload_n hx hb dX1_readExtras_119 rfl (lv_at hl 1 rfl) ?_
                        refine lv_aload_n hx hb dX1_readExtras_120 rfl (lv_at hl 0 rfl) ?_
                        refine va_get (D := D) (ci := 1) (v := .int (V441 1 8)) (fs := (xfReader ad V441 L442 Z)) (C := RX1) (T := TX1) (N := 9) hx hb hg inX1 hown hK hP 1 xgReader rfl 8 (by decide) (hg _ w312) (fun _ h9 => h9) rfl dX1_readExtras_121 ?_
                        refine va_putN (D := D) (ci := 3) (v := .int (V441 1 8)) (ty := tyX3 10) (fs := (xfComp ad V441 gi)) (C := RX3) (T := TX3) (N := 13) hx hb hg inX3 tyX3 tyX3_ok nmX3 hown hK hP hD hS (72 + gi) (xgComp hgi) rfl 10 (by decide) (hnw.use 536 n536 rfl) (fun _ h9 => h9) rfl (tyX3_ok 10 (by decide)) rfl rfl (Nat.le_of_ble_eq_true rfl) dX1_readExtras_124 (fun H locs hP hD hS => ?_)
                        obtain ⟨V456, hV456⟩ : ∃ z, z = up2 V441 55 gi (V441 1 8) := ⟨_, rfl⟩
                        have ew457 : (xw ad kk V441 L442 Z).set (72 + gi) ((ad (72 + gi)), .inr (3, (xfComp ad V441 gi).set 10 (.int (V441 1 8)))) = xw ad kk V456 L442 Z := by rw [hV456]; exact xpComp_whenValue hgi
                        have hP : va_P D vwCl (xw ad kk V456 L442 Z) H := by rw [← ew457]; exact hP
                        have hD : va_D A (xw ad kk V456 L442 Z) := by rw [← ew457]; exact hD
                        have hMV456 : rgd bX V456 := hMV441.put hV456 (i_full _)
                        have agV456 : agr [(1, 3), (1, 6), (1, 8), (6, 8), (6, 9), (6, 10)] [43, 44, 52, 53, 54, 55] V V456 := agV441.up hV456 rfl
                        refine lv_iconst (v := 1) hx hb dX1_readExtras_127 (by decide) ?_
                        have rl458 : RelC V456 L442 b gT (nx (nx (nx (nx (nx mx241.2 1) 1) 1) 1) 1) := RelC.ag rl452 (show agr [] [55] V441 V456 from (agr.up agr.rf hV456 rfl)) (by decide) (show agL [] L442 L442 from agL.rf) (by decide)
                        exact W.zret (v := 1) hx hb hr rfl (fun t ht hW => ⟨⟨1, (V456, L442), rfl, ⟨hMV456, agV456, alL442, (by decide), (Or.inl ⟨rfl, (nx (nx (nx (nx (nx mx241.2 1) 1) 1) 1) 1), hr453, rl458, keepS.le (keepS.tr (keepS.tr (keepS.tr (keepS.tr (keepS.tr (keepS.tr (keepS.rf : keepS gs 0 gs) kp246) (keepS.n1 1)) (keepS.n1 1)) (keepS.n1 1)) (keepS.n1 1)) (keepS.n1 1)) (by decide)⟩)⟩, by rw [ht]; exact hP, va_K.moved hW.alike hK, hD⟩, hS.F ht⟩) hS.2.2 dX1_readExtras_128
                      · skip
                        have f459 : z435.toInt = 0 := b_eq rfl (by decide) c454
                        exfalso; first | omega | ((try (have i_t439 := Imp.go t439 (by omega))); (try (have i_t438 := Imp.go t438 (by omega))); (try (have i_t370 := Imp.go t370 (by omega))); (try (have i_t369 := Imp.go t369 (by omega))); (try (have i_t369 := Imp.go t369 (by omega))); (try (have i_t370 := Imp.go t370 (by omega))); (try (have i_t438 := Imp.go t438 (by omega))); (try (have i_t439 := Imp.go t439 (by omega))); omega)
                    · skip
                      have hb460 : ∀ k, Rc gT (Crun gs (Icalled :: Irank :: IwhenI :: k)) (Cbad (V441 1 3).toInt) := fun k => Rc.go1 (hr427 k) ((nm_1 (fun h9 => h445 (rl433.tok.1.symm.trans h9))).trans (fl_eq rl433.tok.2.2 k448))
                      refine lv_if_ne (tgt := 119) hx hb dX1_readExtras_114 (by decide) (fun c461 => ?_) (fun c461 => ?_)
                      · skip
                        have f462 : z435.toInt ≠ 0 := b_neq rfl (by decide) c461
                        exfalso; first | omega | ((try (have i_t439 := Imp.go t439 (by omega))); (try (have i_t438 := Imp.go t438 (by omega))); (try (have i_t370 := Imp.go t370 (by omega))); (try (have i_t369 := Imp.go t369 (by omega))); (try (have i_t369 := Imp.go t369 (by omega))); (try (have i_t370 := Imp.go t370 (by omega))); (try (have i_t438 := Imp.go t438 (by omega))); (try (have i_t439 := Imp.go t439 (by omega))); omega)
                      · skip
                        have f463 : z435.toInt = 0 := b_eq rfl (by decide) c461
                        refine lv_iconst (v := 0) hx hb dX1_readExtras_117 (by decide) ?_
                        exact W.zret (v := 0) hx hb hr rfl (fun t ht hW => ⟨⟨0, (V441, L442), rfl, ⟨hMV441, agV441, alL442, (by decide), (Or.inr ⟨rfl, hb460⟩)⟩, by rw [ht]; exact hP, va_K.moved hW.alike hK, hD⟩, hS.F ht⟩) hS.2.2 dX1_readExtras_118
                    · skip
                      have hb464 : ∀ k, Rc gT (Crun gs (Icalled :: Irank :: IwhenI :: k)) (Cbad (V441 1 3).toInt) := fun k => Rc.go1 (hr427 k) ((nm_4 (rl433.tok.1.trans h445) (by omega)).trans (fl_eq rl433.tok.2.2 k448))
                      refine lv_if_ne (tgt := 119) hx hb dX1_readExtras_114 (by decide) (fun c465 => ?_) (fun c465 => ?_)
                      · skip
                        have f466 : z435.toInt ≠ 0 := b_neq rfl (by decide) c465
                        exfalso; first | omega | ((try (have i_t439 := Imp.go t439 (by omega))); (try (have i_t438 := Imp.go t438 (by omega))); (try (have i_t370 := Imp.go t370 (by omega))); (try (have i_t369 := Imp.go t369 (by omega))); (try (have i_t369 := Imp.go t369 (by omega))); (try (have i_t370 := Imp.go t370 (by omega))); (try (have i_t438 := Imp.go t438 (by omega))); (try (have i_t439 := Imp.go t439 (by omega))); omega)
                      · skip
                        have f467 : z435.toInt = 0 := b_eq rfl (by decide) c465
                        refine lv_iconst (v := 0) hx hb dX1_readExtras_117 (by decide) ?_
                        exact W.zret (v := 0) hx hb hr rfl (fun t ht hW => ⟨⟨0, (V441, L442), rfl, ⟨hMV441, agV441, alL442, (by decide), (Or.inr ⟨rfl, hb464⟩)⟩, by rw [ht]; exact hP, va_K.moved hW.alike hK, hD⟩, hS.F ht⟩) hS.2.2 dX1_readExtras_118
                  · skip
                    have f468 : z415.toInt = 0 := b_eq rfl (by decide) c428
                    exfalso; first | omega | ((try (have i_t370 := Imp.go t370 (by omega))); (try (have i_t369 := Imp.go t369 (by omega))); (try (have i_t369 := Imp.go t369 (by omega))); (try (have i_t370 := Imp.go t370 (by omega))); omega)
                · skip
                  have hb469 : ∀ k, Rc gT (Crun gs (Icalled :: Irank :: IwhenI :: k)) (Cbad (V419 1 3).toInt) := fun k => Rc.go1 (hr397 k) (se_b h423)
                  refine lv_if_ne (tgt := 99) hx hb dX1_readExtras_94 (by decide) (fun c470 => ?_) (fun c470 => ?_)
                  · skip
                    have f471 : z415.toInt ≠ 0 := b_neq rfl (by decide) c470
                    exfalso; first | omega | ((try (have i_t370 := Imp.go t370 (by omega))); (try (have i_t369 := Imp.go t369 (by omega))); (try (have i_t369 := Imp.go t369 (by omega))); (try (have i_t370 := Imp.go t370 (by omega))); omega)
                  · skip
                    have f472 : z415.toInt = 0 := b_eq rfl (by decide) c470
                    refine lv_iconst (v := 0) hx hb dX1_readExtras_97 (by decide) ?_
                    exact W.zret (v := 0) hx hb hr rfl (fun t ht hW => ⟨⟨0, (V419, L420), rfl, ⟨hMV419, agV419, alL420, (by decide), (Or.inr ⟨rfl, hb469⟩)⟩, by rw [ht]; exact hP, va_K.moved hW.alike hK, hD⟩, hS.F ht⟩) hS.2.2 dX1_readExtras_98
            · skip
              have f473 : z366.toInt = 0 := b_eq rfl (by decide) c385
              exfalso; first | omega | ((try (have i_t370 := Imp.go t370 (by omega))); (try (have i_t369 := Imp.go t369 (by omega))); (try (have i_t369 := Imp.go t369 (by omega))); (try (have i_t370 := Imp.go t370 (by omega))); omega)
          · skip
            have hb474 : ∀ k, Rc gT (Crun gs (Icalled :: Irank :: IwhenI :: k)) (Cbad (V372 1 3).toInt) := fun k => Rc.go1 (hr346 k) ((nm_1 (fun h9 => h376 (rl363.tok.1.symm.trans h9))).trans (fl_eq rl363.tok.2.2 k379))
            refine lv_if_ne (tgt := 62) hx hb dX1_readExtras_57 (by decide) (fun c475 => ?_) (fun c475 => ?_)
            · skip
              have f476 : z366.toInt ≠ 0 := b_neq rfl (by decide) c475
              exfalso; first | omega | ((try (have i_t370 := Imp.go t370 (by omega))); (try (have i_t369 := Imp.go t369 (by omega))); (try (have i_t369 := Imp.go t369 (by omega))); (try (have i_t370 := Imp.go t370 (by omega))); omega)
            · skip
              have f477 : z366.toInt = 0 := b_eq rfl (by decide) c475
              refine lv_iconst (v := 0) hx hb dX1_readExtras_60 (by decide) ?_
              exact W.zret (v := 0) hx hb hr rfl (fun t ht hW => ⟨⟨0, (V372, L373), rfl, ⟨hMV372, agV372, alL373, (by decide), (Or.inr ⟨rfl, hb474⟩)⟩, by rw [ht]; exact hP, va_K.moved hW.alike hK, hD⟩, hS.F ht⟩) hS.2.2 dX1_readExtras_61
          · skip
            have hb478 : ∀ k, Rc gT (Crun gs (Icalled :: Irank :: IwhenI :: k)) (Cbad (V372 1 3).toInt) := fun k => Rc.go1 (hr346 k) ((nm_4 (rl363.tok.1.trans h376) (by omega)).trans (fl_eq rl363.tok.2.2 k379))
            refine lv_if_ne (tgt := 62) hx hb dX1_readExtras_57 (by decide) (fun c479 => ?_) (fun c479 => ?_)
            · skip
              have f480 : z366.toInt ≠ 0 := b_neq rfl (by decide) c479
              exfalso; first | omega | ((try (have i_t370 := Imp.go t370 (by omega))); (try (have i_t369 := Imp.go t369 (by omega))); (try (have i_t369 := Imp.go t369 (by omega))); (try (have i_t370 := Imp.go t370 (by omega))); omega)
            · skip
              have f481 : z366.toInt = 0 := b_eq rfl (by decide) c479
              refine lv_iconst (v := 0) hx hb dX1_readExtras_60 (by decide) ?_
              exact W.zret (v := 0) hx hb hr rfl (fun t ht hW => ⟨⟨0, (V372, L373), rfl, ⟨hMV372, agV372, alL373, (by decide), (Or.inr ⟨rfl, hb478⟩)⟩, by rw [ht]; exact hP, va_K.moved hW.alike hK, hD⟩, hS.F ht⟩) hS.2.2 dX1_readExtras_61
      · skip
        have f482 : z234.toInt = 0 := b_eq rfl (by decide) c248
        exfalso; omega
    · skip
      have hb483 : ∀ k, Rc gT (Crun gs (Icalled :: Irank :: IwhenI :: k)) (Cbad (V238 1 3).toInt) := fun k => Rc.go1 (hr233 k) (wo_b h242)
      refine lv_if_ne (tgt := 22) hx hb dX1_readExtras_17 (by decide) (fun c484 => ?_) (fun c484 => ?_)
      · skip
        have f485 : z234.toInt ≠ 0 := b_neq rfl (by decide) c484
        exfalso; omega
      · skip
        have f486 : z234.toInt = 0 := b_eq rfl (by decide) c484
        refine lv_iconst (v := 0) hx hb dX1_readExtras_20 (by decide) ?_
        exact W.zret (v := 0) hx hb hr rfl (fun t ht hW => ⟨⟨0, (V238, L239), rfl, ⟨hMV238, agV238, alL239, (by decide), (Or.inr ⟨rfl, hb483⟩)⟩, by rw [ht]; exact hP, va_K.moved hW.alike hK, hD⟩, hS.F ht⟩) hS.2.2 dX1_readExtras_21
abbrev r_x_readType3 : Room := { frames := 3, cells := 0, slots := 0, locals := 65 }
abbrev q_x_readType3 (D : va_G) (ks : KS) (ad : Nat → Nat) (kk : Nat → ClassId) (V : Vf) (L : Lf) (Z : XZ) (b : Nat) (gT : Tk) (gs : St) (A : Nat → Prop) : Array Value → State → Outcome → State → Prop := va_Qi (fun (r : Int32) (u : Vf × Lf) => rgd bX u.1 ∧ agr [(1, 3), (1, 6), (1, 7), (6, 8), (6, 9), (6, 10)] [43, 44, 45] V u.1 ∧ agL [1, 6, 44] L u.2 ∧ (0 ≤ r.toInt ∧ r.toInt ≤ 1) ∧ (Rd gT gs (fun k => Istmt :: k) (fun k => Istmt :: k) r.toInt (u.1 1 3).toInt (fun s9 => RelC u.1 u.2 b gT s9 ∧ gs.1 0 + 1 ≤ s9.1 0))) (fun u t => gq D A (xw ad kk u.1 u.2 Z) (xty kk Z) t) A
set_option maxHeartbeats 4000000 in
set_option maxRecDepth 100000 in
theorem x_readType3 (l : Launch) (D : va_G) (ks : KS) (sz : Nat) (ad : Nat → Nat) (kk : Nat → ClassId) (V : Vf) (L : Lf) (Z : XZ) (b : Nat) (gT : Tk) (gs : St) (hMV : rgd bX V) (hb2 : b < 2) (rbk : (V 1 1).toInt = (b : Int)) (own : (V 1 2).toInt = -1) (rel : RelC V L b gT gs) (kd9 : (V 6 9).toInt = 128)  : Met l yX1_readType (Cond.code yX1_readType cX1_readType 4 (some .boolean) :: GW) r_x_readType3 (va_Pc [.ref (ad 1)] (gp D ks (xw ad kk V L Z) (xty kk Z) sz)) (q_x_readType3 D ks ad kk V L Z  b gT gs (va_A (xw ad kk V L Z) sz)) 0 0 (va_A (xw ad kk V L Z) sz) := by
  refine g_met (q_x_readType3 D ks ad kk V L Z  b gT gs) (by decide) (Nat.le_of_ble_eq_true rfl) ?_
  intro p e s m below meth c A ls H locs hx hb hr hml hown hg hlocks hin hnw hgk hP hK hD hS hA hl
  have hown : s.vm.findClass RX1 = some m.cls := hown
  have hl : lv_has ls 4 [(0, .ref (ad 1))] := hl
  have hP : va_P D vwCl (xw ad kk V L Z) H := hP
  have hD : va_D A (xw ad kk V L Z) := hD
  have hK : va_K D vwCl (xty kk Z) s := hK
  have agV : agr [(1, 3), (1, 6), (1, 7), (6, 8), (6, 9), (6, 10)] [43, 44, 45] V V := agr.rf
  have alL : agL [1, 6, 44] L L := agL.rf
  have r1 : (-1) ≤ ((V 1 1)).toInt ∧ ((V 1 1)).toInt ≤ 1 := hMV 1 1
  have r2 : (-1) ≤ ((V 1 2)).toInt ∧ ((V 1 2)).toInt ≤ 47 := hMV 1 2
  have ln0 := (rel.2.2.1 0 (by decide)).1
  have r3 : xcap (5 * b + 0) = 24 := xcap_0
  refine lv_aload_n hx hb dX1_readType_0 rfl (lv_at hl 0 rfl) ?_
  refine va_get (D := D) (ci := 1) (v := rfN ad 38 (V 1 1)) (fs := (xfReader ad V L Z)) (C := RX1) (T := TX1) (N := 9) hx hb hg inX1 hown hK hP 1 xgReader rfl 1 (by decide) (hg _ w305) (fun _ h9 => h9) rfl dX1_readType_1 ?_
  refine g_topv (v := .ref (ad (38 + b))) (rfN_r (by omega)) ?_
  refine va_getN (D := D) (ci := 0) (v := .ref (ad (40 + (5 * b + 0)))) (fs := (xfBook ad V b)) (C := RX0) (T := TX0) (N := 13) hx hb hg inX0 hown hK hP (38 + b) (xgBook hb2) rfl 0 (by decide) (hnw.use 594 n594 rfl) (fun _ h9 => h9) rfl dX1_readType_4 ?_
  have il4 : (5 * b + 0) < 10 := by omega
  refine gA_int (gA_runV (As := []) (rest := []) (ci := 6) (q0 := (40 + (5 * b + 0))) hx hb hml hown hg hP hD hK hS hA hnw hgk (x_isFull2 l D ks H.size ad kk V L Z ((5 * b + 0)) hMV (show (5 * b + 0) < 10 from by omega)) w863 w864 w865 w168 w866 rfl (xgNames il4) hdV_yX6_isFull ⟨Nat.le_of_ble_eq_true rfl, Nat.le_of_ble_eq_true rfl⟩ rfl hl.1 rfl (Nat.le_of_ble_eq_true rfl) dX1_readType_7 ⟨Nat.le_of_ble_eq_true rfl, Nat.le_of_ble_eq_true rfl⟩) hP hD hK hS hA (fun z5 u6 H locs w7 hP hD hK hS => ?_)
  obtain ⟨rgz5, t8, t9⟩ := w7
  have rgz5 : 0 ≤ z5.toInt ∧ z5.toInt ≤ 1 := rgz5
  have t8 : Imp (z5.toInt = 0) ((V 43 (5 * b + 0)).toInt < ((xcap (5 * b + 0) : Nat) : Int)) := t8
  have t9 : Imp (z5.toInt = 1) (((xcap (5 * b + 0) : Nat) : Int) ≤ (V 43 (5 * b + 0)).toInt) := t9
  refine lv_if_eq (tgt := 19) hx hb dX1_readType_10 (by decide) (fun c10 => ?_) (fun c10 => ?_)
  · skip
    have f11 : z5.toInt = 0 := b_eq rfl (by decide) c10
    refine lv_aload_n hx hb dX1_readType_19 rfl (lv_at hl 0 rfl) ?_
    refine va_get (D := D) (ci := 1) (v := .ref (ad 6)) (fs := (xfReader ad V L Z)) (C := RX1) (T := TX1) (N := 9) hx hb hg inX1 hown hK hP 1 xgReader rfl 0 (by decide) (hg _ w304) (fun _ h9 => h9) rfl dX1_readType_20 ?_
    have hr12 : ∀ k, Rc gT (Crun gs (Istmt :: k)) (Crun gs (Istmt :: k)) := fun k => Rc.rf
    have kd13 : gT.1 (gs.1 0) = ((V 6 9)).toInt := RelC.kd rel
    have hr14 : ∀ k, Rc gT (Crun gs (Istmt :: k)) (Crun (nx gs 1) (InewType :: k)) := fun k => Rc.go1 (hr12 k) (st_128 (kd13.trans kd9) (by first | omega | ((try (have i_t9 := Imp.go t9 (by omega))); (try (have i_t8 := Imp.go t8 (by omega))); (try (have i_t8 := Imp.go t8 (by omega))); (try (have i_t9 := Imp.go t9 (by omega))); omega)))
    have l815 := RelC.l8 rel
    have r16 : 0 ≤ ((V 6 8)).toInt ∧ ((V 6 8)).toInt ≤ 4000 := hMV 6 8
    have r17 : 0 ≤ ((V 6 7)).toInt ∧ ((V 6 7)).toInt ≤ 4000 := hMV 6 7
    have lk18 := RelC.lk rel (show (V 6 9).toInt ≠ 0 from by omega)
    refine gA_void (gA_runV (As := []) (rest := []) (ci := 9) (q0 := 6) hx hb hml hown hg hP hD hK hS hA hnw hgk (x_next2 l D ks H.size ad kk V L Z  hMV (show (V 6 8).toInt ≤ (V 6 7).toInt from by first | omega | ((try (have i_t9 := Imp.go t9 (by omega))); (try (have i_t8 := Imp.go t8 (by omega))); (try (have i_t8 := Imp.go t8 (by omega))); (try (have i_t9 := Imp.go t9 (by omega))); omega))) w871 w852 w853 w157 w854 rfl xgTape hdV_yX9_next ⟨Nat.le_of_ble_eq_true rfl, Nat.le_of_ble_eq_true rfl⟩ rfl hl.1 rfl (Nat.le_of_ble_eq_true rfl) dX1_readType_23 ⟨Nat.le_of_ble_eq_true rfl, Nat.le_of_ble_eq_true rfl⟩) hP hD hK hS hA (fun u20 H locs w21 hP hD hK hS => ?_)
    obtain ⟨V24, L25⟩ := u20
    obtain ⟨hMV24, ajV24, axL25, t22, t23⟩ := w21
    have alL25 : agL [1, 6, 44] L L25 := agL.tr alL axL25 (by decide)
    have hP : va_P D vwCl (xw ad kk V24 L25 Z) H := hP
    have hD : va_D A (xw ad kk V24 L25 Z) := hD
    have hMV24 : rgd bX V24 := hMV24
    have ajV24 : agr [(6, 8), (6, 9), (6, 10)] [] V V24 := ajV24
    have agV24 : agr [(1, 3), (1, 6), (1, 7), (6, 8), (6, 9), (6, 10)] [43, 44, 45] V V24 := agV.tr ajV24 (by decide) (by decide)
    have t22 : (V24 6 8).toInt ≤ (V24 6 7).toInt := t22
    have t23 : CUR V24 L25 (Int32.toNatClampNeg (V 6 8)) := t23
    have r26 : 0 ≤ ((V24 6 8)).toInt ∧ ((V24 6 8)).toInt ≤ 4000 := hMV24 6 8
    have pq27 : (V24 6 7).toInt = ((V 6 7)).toInt := congrArg Int32.toInt (ajV24 6 7 rfl)
    have rl28 : RelC V24 L25 b gT (nx gs 1) := RelC.nx1 rel ajV24 (by decide) axL25 (by decide) (by rw [← lk18]; exact t23) (ajV24 1 3 rfl)
    refine lv_aload_n hx hb dX1_readType_26 rfl (lv_at hl 0 rfl) ?_
    have pq29 : (V24 1 1).toInt = ((V 1 1)).toInt := congrArg Int32.toInt (ajV24 1 1 rfl)
    refine gA_int (gA_runV (As := []) (rest := []) (ci := 1) (q0 := 1) hx hb hml hown hg hP hD hK hS hA hnw hgk (x_takeNewName3 l D ks H.size ad kk V24 L25 Z (b) (gT) ((nx gs 1)) hMV24 (show b < 2 from by first | omega | ((try (have i_t9 := Imp.go t9 (by omega))); (try (have i_t8 := Imp.go t8 (by omega))); (try (have i_t8 := Imp.go t8 (by omega))); (try (have i_t9 := Imp.go t9 (by omega))); omega)) (show (V24 1 1).toInt = (b : Int) from by first | omega | ((try (have i_t9 := Imp.go t9 (by omega))); (try (have i_t8 := Imp.go t8 (by omega))); (try (have i_t8 := Imp.go t8 (by omega))); (try (have i_t9 := Imp.go t9 (by omega))); omega)) rl28) w872 w874 w7 w162 w875 rfl xgReader hdV_yX1_takeNewName ⟨Nat.le_of_ble_eq_true rfl, Nat.le_of_ble_eq_true rfl⟩ rfl hl.1 rfl (Nat.le_of_ble_eq_true rfl) dX1_readType_27 ⟨Nat.le_of_ble_eq_true rfl, Nat.le_of_ble_eq_true rfl⟩) hP hD hK hS hA (fun z30 u31 H locs w32 hP hD hK hS => ?_)
    obtain ⟨V34, L35⟩ := u31
    obtain ⟨hMV34, ajV34, axL35, rgz30, t33⟩ := w32
    have alL35 : agL [1, 6, 44] L L35 := agL.tr alL25 axL35 (by decide)
    have hP : va_P D vwCl (xw ad kk V34 L35 Z) H := hP
    have hD : va_D A (xw ad kk V34 L35 Z) := hD
    have hMV34 : rgd bX V34 := hMV34
    have ajV34 : agr [(1, 3), (6, 8), (6, 9), (6, 10)] [] V24 V34 := ajV34
    have agV34 : agr [(1, 3), (1, 6), (1, 7), (6, 8), (6, 9), (6, 10)] [43, 44, 45] V V34 := agV24.tr ajV34 (by decide) (by decide)
    have rgz30 : 0 ≤ z30.toInt ∧ z30.toInt ≤ 1 := rgz30
    have t33 : KcW (newN gT (nx gs 1)) z30.toInt (V34 1 3).toInt (fun w9 => RelC V34 L35 b gT (nx (nx gs 1) 1) ∧ L35 1 5 = w9) := t33
    rcases t33 with ⟨q36, wx37, h38, rl39, hw40⟩ | ⟨q36, h38⟩
    · skip
      have hr41 : ∀ k, Rc gT (Crun gs (Istmt :: k)) (Crun (nx (nx gs 1) 1) (Ilike wx37 :: k)) := fun k => Rc.go1 (hr14 k) (nt_y h38)
      refine lv_if_ne (tgt := 35) hx hb dX1_readType_30 (by decide) (fun c42 => ?_) (fun c42 => ?_)
      · skip
        have f43 : z30.toInt ≠ 0 := b_neq rfl (by decide) c42
        refine lv_aload_n hx hb dX1_readType_35 rfl (lv_at hl 0 rfl) ?_
        refine va_get (D := D) (ci := 1) (v := .long (L35 1 5)) (fs := (xfReader ad V34 L35 Z)) (C := RX1) (T := TX1) (N := 9) hx hb hg inX1 hown hK hP 1 xgReader rfl 5 (by decide) (hg _ w309) (fun _ h9 => h9) rfl dX1_readType_36 ?_
        refine lv_lstore_n (lv' := [(1, .long (L35 1 5)), (0, .ref (ad 1))]) hx hb dX1_readType_39 rfl hl (by decide) rfl (fun ls hl => ?_)
        refine lv_aload_n hx hb dX1_readType_40 rfl (lv_at hl 1 rfl) ?_
        refine lv_iconst (v := 0) hx hb dX1_readType_41 (by decide) ?_
        refine va_put (D := D) (ci := 1) (v := .int 0) (ty := tyX1 7) (fs := (xfReader ad V34 L35 Z)) (C := RX1) (T := TX1) (N := 9) hx hb hg inX1 tyX1 tyX1_ok nmX1 hown hK hP hD hS 1 xgReader rfl 7 (by decide) (hg _ w311) (fun _ h9 => h9) rfl (tyX1_ok 7 (by decide)) rfl rfl (Nat.le_of_ble_eq_true rfl) dX1_readType_42 (fun H locs hP hD hS => ?_)
        obtain ⟨V44, hV44⟩ : ∃ z, z = up2 V34 1 7 0 := ⟨_, rfl⟩
        have ew45 : (xw ad kk V34 L35 Z).set 1 ((ad 1), .inr (1, (xfReader ad V34 L35 Z).set 7 (.int 0))) = xw ad kk V44 L35 Z := by rw [hV44]; exact xw_ss (by decide) rfl (xb_si (by decide))
        have hP : va_P D vwCl (xw ad kk V44 L35 Z) H := by rw [← ew45]; exact hP
        have hD : va_D A (xw ad kk V44 L35 Z) := by rw [← ew45]; exact hD
        have hMV44 : rgd bX V44 := hMV34.put hV44 (i_full _)
        have agV44 : agr [(1, 3), (1, 6), (1, 7), (6, 8), (6, 9), (6, 10)] [43, 44, 45] V V44 := agV34.up hV44 rfl
        refine lv_aload_n hx hb dX1_readType_45 rfl (lv_at hl 1 rfl) ?_
        refine va_get (D := D) (ci := 1) (v := .ref (ad 6)) (fs := (xfReader ad V44 L35 Z)) (C := RX1) (T := TX1) (N := 9) hx hb hg inX1 hown hK hP 1 xgReader rfl 0 (by decide) (hg _ w304) (fun _ h9 => h9) rfl dX1_readType_46 ?_
        refine va_getN (D := D) (ci := 9) (v := .int (V44 6 9)) (fs := (xfTape ad V44 L35 Z)) (C := RX9) (T := TX9) (N := 12) hx hb hg inX9 hown hK hP 6 xgTape rfl 9 (by decide) (hnw.use 262 n262 rfl) (fun _ h9 => h9) rfl dX1_readType_49 ?_
        refine g_top (v := (V34 6 9)) (up2_o hV44 (by decide)) ?_
        refine lv_sipush (v := 129) hx hb dX1_readType_52 (by decide) ?_
        refine lv_icmp_ne (tgt := 74) hx hb dX1_readType_55 (by decide) (fun c46 => ?_) (fun c46 => ?_)
        · skip
          have f47 : ((V34 6 9)).toInt ≠ 129 := b_neq rfl (by decide) c46
          refine lv_aload_n hx hb dX1_readType_74 rfl (lv_at hl 1 rfl) ?_
          refine lv_bipush (v := 59) hx hb dX1_readType_75 (by decide) ?_
          have rl48 : RelC V44 L35 b gT (nx (nx gs 1) 1) := RelC.ag rl39 (show agr [(1, 7)] [] V34 V44 from (agr.up agr.rf hV44 rfl)) (by decide) (show agL [] L35 L35 from agL.rf) (by decide)
          have kd49 : gT.1 ((nx (nx gs 1) 1).1 0) = ((V34 6 9)).toInt := (RelC.kd rl48).trans (congrArg Int32.toInt (up2_o hV44 (by decide)))
          have hr50 : ∀ k, Rc gT (Crun gs (Istmt :: k)) (Crun (nx (nx gs 1) 1) (Itake 59 :: IaddTy wx37 :: Istmt :: k)) := fun k => Rc.go1 (hr41 k) (like_n wx37 (fun h9 => f47 (kd49.symm.trans h9)))
          have r51 : Int32.toInt 59 = 59 := by decide
          refine gA_int (gA_runV (As := [.int 59]) (rest := []) (ci := 1) (q0 := 1) hx hb hml hown hg hP hD hK hS hA hnw hgk (x_take2 l D ks H.size ad kk V44 L35 Z 59 (((nx (nx gs 1) 1).1 0)) hMV44 (rl48).1 (rl48).2.1.1 (show 1 ≤ (Int32.toInt 59) from by first | omega | ((try (have i_t9 := Imp.go t9 (by omega))); (try (have i_t8 := Imp.go t8 (by omega))); (try (have i_t8 := Imp.go t8 (by omega))); (try (have i_t9 := Imp.go t9 (by omega))); omega))) w893 w895 w10 w162 w896 rfl xgReader hdV_yX1_take ⟨Nat.le_of_ble_eq_true rfl, Nat.le_of_ble_eq_true rfl⟩ rfl hl.1 rfl (Nat.le_of_ble_eq_true rfl) dX1_readType_77 ⟨Nat.le_of_ble_eq_true rfl, Nat.le_of_ble_eq_true rfl⟩) hP hD hK hS hA (fun z52 u53 H locs w54 hP hD hK hS => ?_)
          obtain ⟨V57, L58⟩ := u53
          obtain ⟨hMV57, ajV57, axL58, rgz52, t55, t56⟩ := w54
          have alL58 : agL [1, 6, 44] L L58 := agL.tr alL35 axL58 (by decide)
          have hP : va_P D vwCl (xw ad kk V57 L58 Z) H := hP
          have hD : va_D A (xw ad kk V57 L58 Z) := hD
          have hMV57 : rgd bX V57 := hMV57
          have ajV57 : agr [(1, 3), (6, 8), (6, 9), (6, 10)] [] V44 V57 := ajV57
          have agV57 : agr [(1, 3), (1, 6), (1, 7), (6, 8), (6, 9), (6, 10)] [43, 44, 45] V V57 := agV44.tr ajV57 (by decide) (by decide)
          have rgz52 : 0 ≤ z52.toInt ∧ z52.toInt ≤ 1 := rgz52
          have t55 : Imp (z52.toInt = 0) (1 ≤ (V57 1 3).toInt) := t55
          have t56 : (z52.toInt = 1 ∧ (V44 12 ((nx (nx gs 1) 1).1 0)).toInt = (Int32.toInt 59) ∧ CUR V57 L58 (((nx (nx gs 1) 1).1 0) + 1) ∧ V57 1 3 = V44 1 3) ∨ (z52.toInt = 0 ∧ (V44 12 ((nx (nx gs 1) 1).1 0)).toInt ≠ (Int32.toInt 59) ∧ (V57 1 3).toInt = 1 + 16 * (V44 13 ((nx (nx gs 1) 1).1 0)).toInt) := t56
          rcases t56 with ⟨q59, h60, k61, k62⟩ | ⟨q59, h60, k61⟩
          · skip
            have rl63 : RelC V57 L58 b gT (nx (nx (nx gs 1) 1) 1) := RelC.nx1 rl48 ajV57 (by decide) axL58 (by decide) k61 k62
            have hr64 : ∀ k, Rc gT (Crun gs (Istmt :: k)) (Crun (nx (nx (nx gs 1) 1) 1) (IaddTy wx37 :: Istmt :: k)) := fun k => Rc.go1 (hr50 k) (tk_y (rl48.tok.1.trans (h60.trans (by decide))))
            refine lv_if_ne (tgt := 85) hx hb dX1_readType_80 (by decide) (fun c65 => ?_) (fun c65 => ?_)
            · skip
              have f66 : z52.toInt ≠ 0 := b_neq rfl (by decide) c65
              refine lv_aload_n hx hb dX1_readType_85 rfl (lv_at hl 1 rfl) ?_
              refine va_get (D := D) (ci := 1) (v := rfN ad 38 (V57 1 1)) (fs := (xfReader ad V57 L58 Z)) (C := RX1) (T := TX1) (N := 9) hx hb hg inX1 hown hK hP 1 xgReader rfl 1 (by decide) (hg _ w305) (fun _ h9 => h9) rfl dX1_readType_86 ?_
              have pq67 : (V57 1 1).toInt = ((V 1 1)).toInt := congrArg Int32.toInt ((ajV57 1 1 rfl).trans ((up2_k hV44 (by decide)).trans ((ajV34 1 1 rfl).trans (ajV24 1 1 rfl))))
              refine g_topv (v := .ref (ad (38 + b))) (rfN_r (by first | omega | ((try (have i_t55 := Imp.go t55 (by omega))); (try (have i_t9 := Imp.go t9 (by omega))); (try (have i_t8 := Imp.go t8 (by omega))); (try (have i_t8 := Imp.go t8 (by omega))); (try (have i_t9 := Imp.go t9 (by omega))); (try (have i_t55 := Imp.go t55 (by omega))); omega))) ?_
              refine va_getN (D := D) (ci := 0) (v := .ref (ad (40 + (5 * b + 0)))) (fs := (xfBook ad V57 b)) (C := RX0) (T := TX0) (N := 13) hx hb hg inX0 hown hK hP (38 + b) (xgBook hb2) rfl 0 (by decide) (hnw.use 594 n594 rfl) (fun _ h9 => h9) rfl dX1_readType_89 ?_
              refine lv_lload_n hx hb dX1_readType_92 rfl (lv_at hl 0 rfl) ?_
              have ad1 := (rl63.2.2.1 0 (by decide)).1
              have ad2 := congrArg List.length (((keepS.tr (keepS.tr (keepS.tr (keepS.rf : keepS gs 0 gs) (keepS.n1 1)) (keepS.n1 1)) (keepS.n1 1))).2.2.1 0 (by decide))
              have ad3 := ln0
              refine gA_int (gA_runV (As := [.long (L35 1 5)]) (rest := []) (ci := 6) (q0 := (40 + (5 * b + 0))) hx hb hml hown hg hP hD hK hS hA hnw hgk (x_add2 l D ks H.size ad kk V57 L58 Z (L35 1 5) ((5 * b + 0)) hMV57 (show (5 * b + 0) < 10 from by first | omega | ((try (have i_t55 := Imp.go t55 (by omega))); (try (have i_t9 := Imp.go t9 (by omega))); (try (have i_t8 := Imp.go t8 (by omega))); (try (have i_t8 := Imp.go t8 (by omega))); (try (have i_t9 := Imp.go t9 (by omega))); (try (have i_t55 := Imp.go t55 (by omega))); omega))) w897 w898 w899 w168 w900 rfl (xgNames il4) hdV_yX6_add ⟨Nat.le_of_ble_eq_true rfl, Nat.le_of_ble_eq_true rfl⟩ rfl hl.1 rfl (Nat.le_of_ble_eq_true rfl) dX1_readType_93 ⟨Nat.le_of_ble_eq_true rfl, Nat.le_of_ble_eq_true rfl⟩) hP hD hK hS hA (fun z68 u69 H locs w70 hP hD hK hS => ?_)
              obtain ⟨V76, L77⟩ := u69
              obtain ⟨hMV76, ajV76, axL77, fyV76, rgz68, t71, t72, t73, t74, t75⟩ := w70
              have alL77 : agL [1, 6, 44] L L77 := agL.tr alL58 axL77 (by decide)
              have hP : va_P D vwCl (xw ad kk V76 L77 Z) H := hP
              have hD : va_D A (xw ad kk V76 L77 Z) := hD
              have hMV76 : rgd bX V76 := hMV76
              have ajV76 : agr [] [43, 44] V57 V76 := ajV76
              have agV76 : agr [(1, 3), (1, 6), (1, 7), (6, 8), (6, 9), (6, 10)] [43, 44, 45] V V76 := agV57.tr ajV76 (by decide) (by decide)
              have rgz68 : (-1) ≤ z68.toInt ∧ z68.toInt ≤ 23 := rgz68
              have t71 : z68.toInt < (V76 43 (5 * b + 0)).toInt := t71
              have t72 : Imp ((V57 43 (5 * b + 0)).toInt < ((xcap (5 * b + 0) : Nat) : Int)) (z68.toInt = (V57 43 (5 * b + 0)).toInt ∧ (V76 43 (5 * b + 0)).toInt = (V57 43 (5 * b + 0)).toInt + 1) := t72
              have t73 : Imp (((xcap (5 * b + 0) : Nat) : Int) ≤ (V57 43 (5 * b + 0)).toInt) (z68.toInt = -1 ∧ (V76 43 (5 * b + 0)).toInt = (V57 43 (5 * b + 0)).toInt) := t73
              have t74 : ∀ n : Nat, ¬ n = (5 * b + 0) → V76 43 n = V57 43 n := t74
              have t75 : (z68.toInt = -1 ∧ L77 = L58) ∨ (0 ≤ z68.toInt ∧ L77 = upL L58 44 (24 * (5 * b + 0) + Int32.toNatClampNeg (V57 43 (5 * b + 0))) (L35 1 5)) := t75
              have ig80 := Imp.go t72 (by first | omega | ((try (have i_t55 := Imp.go t55 (by omega))); (try (have i_t9 := Imp.go t9 (by omega))); (try (have i_t8 := Imp.go t8 (by omega))); (try (have i_t8 := Imp.go t8 (by omega))); (try (have i_t9 := Imp.go t9 (by omega))); (try (have i_t55 := Imp.go t55 (by omega))); omega))
              rcases t75 with ⟨q78, h79⟩ | ⟨q78, h79⟩
              · exfalso; omega
              · skip
                have rl81 : RelC V76 L77 b gT (sA (nx (nx (nx gs 1) 1) 1) 0 wx37) := RelC.add rl63 (by decide) ajV76 (by decide) t74 ig80.2 (by rw [← hw40]; exact h79) (sz24 hMV57) (by omega)
                have hr82 : ∀ k, Rc gT (Crun gs (Istmt :: k)) (Crun (sA (nx (nx (nx gs 1) 1) 1) 0 wx37) (Istmt :: k)) := fun k => Rc.go1 (hr64 k) (m_addTy wx37)
                refine lv_istore_n (lv' := [(3, .int z68), (1, .long (L35 1 5)), (0, .ref (ad 1))]) hx hb dX1_readType_96 rfl hl (by decide) rfl (fun ls hl => ?_)
                refine lv_iload_n hx hb dX1_readType_97 rfl (lv_at hl 0 rfl) ?_
                refine lv_iconst (v := (-1)) hx hb dX1_readType_98 (by decide) ?_
                refine lv_icmp_eq (tgt := 119) hx hb dX1_readType_99 (by decide) (fun c83 => ?_) (fun c83 => ?_)
                · skip
                  have f84 : z68.toInt = (-1) := b_eq rfl (by decide) c83
                  exfalso; first | omega | ((try (have i_t73 := Imp.go t73 (by omega))); (try (have i_t72 := Imp.go t72 (by omega))); (try (have i_t55 := Imp.go t55 (by omega))); (try (have i_t9 := Imp.go t9 (by omega))); (try (have i_t8 := Imp.go t8 (by omega))); (try (have i_t8 := Imp.go t8 (by omega))); (try (have i_t9 := Imp.go t9 (by omega))); (try (have i_t55 := Imp.go t55 (by omega))); (try (have i_t72 := Imp.go t72 (by omega))); (try (have i_t73 := Imp.go t73 (by omega))); omega)
                · skip
                  have f85 : z68.toInt ≠ (-1) := b_neq rfl (by decide) c83
                  refine lv_aload_n hx hb dX1_readType_102 rfl (lv_at hl 2 rfl) ?_
                  refine va_get (D := D) (ci := 1) (v := rfN ad 38 (V76 1 1)) (fs := (xfReader ad V76 L77 Z)) (C := RX1) (T := TX1) (N := 9) hx hb hg inX1 hown hK hP 1 xgReader rfl 1 (by decide) (hg _ w305) (fun _ h9 => h9) rfl dX1_readType_103 ?_
                  have pq86 : (V76 1 1).toInt = ((V 1 1)).toInt := congrArg Int32.toInt ((ajV76 1 1 rfl).trans ((ajV57 1 1 rfl).trans ((up2_k hV44 (by decide)).trans ((ajV34 1 1 rfl).trans (ajV24 1 1 rfl)))))
                  refine g_topv (v := .ref (ad (38 + b))) (rfN_r (by first | omega | ((try (have i_t73 := Imp.go t73 (by omega))); (try (have i_t72 := Imp.go t72 (by omega))); (try (have i_t55 := Imp.go t55 (by omega))); (try (have i_t9 := Imp.go t9 (by omega))); (try (have i_t8 := Imp.go t8 (by omega))); (try (have i_t8 := Imp.go t8 (by omega))); (try (have i_t9 := Imp.go t9 (by omega))); (try (have i_t55 := Imp.go t55 (by omega))); (try (have i_t72 := Imp.go t72 (by omega))); (try (have i_t73 := Imp.go t73 (by omega))); omega))) ?_
                  refine va_getN (D := D) (ci := 0) (v := .ref (ad (60 + b))) (fs := (xfBook ad V76 b)) (C := RX0) (T := TX0) (N := 13) hx hb hg inX0 hown hK hP (38 + b) (xgBook hb2) rfl 5 (by decide) (hnw.use 609 n609 rfl) (fun _ h9 => h9) rfl dX1_readType_106 ?_
                  refine lv_iload_n hx hb dX1_readType_109 rfl (lv_at hl 0 rfl) ?_
                  refine lv_aload_n hx hb dX1_readType_110 rfl (lv_at hl 2 rfl) ?_
                  refine va_get (D := D) (ci := 1) (v := .int (V76 1 7)) (fs := (xfReader ad V76 L77 Z)) (C := RX1) (T := TX1) (N := 9) hx hb hg inX1 hown hK hP 1 xgReader rfl 7 (by decide) (hg _ w311) (fun _ h9 => h9) rfl dX1_readType_111 ?_
                  refine g_top (v := 0) ((ajV76 1 7 rfl).trans ((ajV57 1 7 rfl).trans (up2_s hV44))) ?_
                  refine lv_iconst (v := 1) hx hb dX1_readType_114 (by decide) ?_
                  refine lv_iload_n hx hb dX1_readType_115 rfl (lv_at hl 0 rfl) ?_
                  refine lv_ishl hx hb dX1_readType_116 ?_
                  refine lv_topi (fun z87 ez87 => ?_)
                  have hz87 : 0 ≤ z87.toInt ∧ z87.toInt < 16777216 := shl1 ez87 (by first | omega | ((try (have i_t73 := Imp.go t73 (by omega))); (try (have i_t72 := Imp.go t72 (by omega))); (try (have i_t55 := Imp.go t55 (by omega))); (try (have i_t9 := Imp.go t9 (by omega))); (try (have i_t8 := Imp.go t8 (by omega))); (try (have i_t8 := Imp.go t8 (by omega))); (try (have i_t9 := Imp.go t9 (by omega))); (try (have i_t55 := Imp.go t55 (by omega))); (try (have i_t72 := Imp.go t72 (by omega))); (try (have i_t73 := Imp.go t73 (by omega))); omega))
                  refine lv_ior hx hb dX1_readType_117 ?_
                  refine lv_topi (fun z88 ez88 => ?_)
                  have hz88 : 0 ≤ z88.toInt ∧ z88.toInt < 16777216 := or24 ez88 (by decide) (by first | omega | ((try (have i_t73 := Imp.go t73 (by omega))); (try (have i_t72 := Imp.go t72 (by omega))); (try (have i_t55 := Imp.go t55 (by omega))); (try (have i_t9 := Imp.go t9 (by omega))); (try (have i_t8 := Imp.go t8 (by omega))); (try (have i_t8 := Imp.go t8 (by omega))); (try (have i_t9 := Imp.go t9 (by omega))); (try (have i_t55 := Imp.go t55 (by omega))); (try (have i_t72 := Imp.go t72 (by omega))); (try (have i_t73 := Imp.go t73 (by omega))); omega))
                  have il89 : b < 2 := by first | omega | ((try (have i_t73 := Imp.go t73 (by omega))); (try (have i_t72 := Imp.go t72 (by omega))); (try (have i_t55 := Imp.go t55 (by omega))); (try (have i_t9 := Imp.go t9 (by omega))); (try (have i_t8 := Imp.go t8 (by omega))); (try (have i_t8 := Imp.go t8 (by omega))); (try (have i_t9 := Imp.go t9 (by omega))); (try (have i_t55 := Imp.go t55 (by omega))); (try (have i_t72 := Imp.go t72 (by omega))); (try (have i_t73 := Imp.go t73 (by omega))); omega)
                  refine va_iast (D := D) (i := z68) (x := z88) hx hb hK hP hD hS (60 + b) (53 + b) (xgtypeUnder il89) (xttypeUnder il89) (i_in (a := z68.toInt) rfl (by first | omega | ((try (have i_t73 := Imp.go t73 (by omega))); (try (have i_t72 := Imp.go t72 (by omega))); (try (have i_t55 := Imp.go t55 (by omega))); (try (have i_t9 := Imp.go t9 (by omega))); (try (have i_t8 := Imp.go t8 (by omega))); (try (have i_t8 := Imp.go t8 (by omega))); (try (have i_t9 := Imp.go t9 (by omega))); (try (have i_t55 := Imp.go t55 (by omega))); (try (have i_t72 := Imp.go t72 (by omega))); (try (have i_t73 := Imp.go t73 (by omega))); omega))) dX1_readType_118 (fun H locs hP hD hS => ?_)
                  have kc90 := i_clamp (x := z68) rfl (by first | omega | ((try (have i_t73 := Imp.go t73 (by omega))); (try (have i_t72 := Imp.go t72 (by omega))); (try (have i_t55 := Imp.go t55 (by omega))); (try (have i_t9 := Imp.go t9 (by omega))); (try (have i_t8 := Imp.go t8 (by omega))); (try (have i_t8 := Imp.go t8 (by omega))); (try (have i_t9 := Imp.go t9 (by omega))); (try (have i_t55 := Imp.go t55 (by omega))); (try (have i_t72 := Imp.go t72 (by omega))); (try (have i_t73 := Imp.go t73 (by omega))); omega))
                  have kl91 : (Int32.toNatClampNeg z68) < 24 := by first | omega | ((try (have i_t73 := Imp.go t73 (by omega))); (try (have i_t72 := Imp.go t72 (by omega))); (try (have i_t55 := Imp.go t55 (by omega))); (try (have i_t9 := Imp.go t9 (by omega))); (try (have i_t8 := Imp.go t8 (by omega))); (try (have i_t8 := Imp.go t8 (by omega))); (try (have i_t9 := Imp.go t9 (by omega))); (try (have i_t55 := Imp.go t55 (by omega))); (try (have i_t72 := Imp.go t72 (by omega))); (try (have i_t73 := Imp.go t73 (by omega))); omega)
                  obtain ⟨V92, hV92⟩ : ∃ z, z = up2 V76 45 (24 * b + (Int32.toNatClampNeg z68)) z88 := ⟨_, rfl⟩
                  have ew93 : (xw ad kk V76 L77 Z).set (60 + b) ((ad (60 + b)), .inl ((kk (60 + b)), 24, .inl (upd (fun q => if q < 24 then V76 45 (24 * b + q) else 0) (Int32.toNatClampNeg z68) z88))) = xw ad kk V92 L77 Z := by rw [hV92]; exact xptypeUnder il89 kl91
                  have hP : va_P D vwCl (xw ad kk V92 L77 Z) H := by rw [← ew93]; exact hP
                  have hD : va_D A (xw ad kk V92 L77 Z) := by rw [← ew93]; exact hD
                  have hMV92 : rgd bX V92 := hMV76.put hV92 (i_full _)
                  have agV92 : agr [(1, 3), (1, 6), (1, 7), (6, 8), (6, 9), (6, 10)] [43, 44, 45] V V92 := agV76.up hV92 rfl
                  refine lv_iconst (v := 1) hx hb dX1_readType_119 (by decide) ?_
                  have rl94 : RelC V92 L77 b gT (sA (nx (nx (nx gs 1) 1) 1) 0 wx37) := RelC.ag rl81 (show agr [] [45] V76 V92 from (agr.up agr.rf hV92 rfl)) (by decide) (show agL [] L77 L77 from agL.rf) (by decide)
                  have ps95 : gs.1 0 + 1 ≤ (nx gs 1).1 0 := ((keepS.n1 1)).1
                  have ps96 : (nx gs 1).1 0 + 1 ≤ (nx (nx gs 1) 1).1 0 := ((keepS.n1 1)).1
                  have ps97 : (nx (nx gs 1) 1).1 0 + 1 ≤ (nx (nx (nx gs 1) 1) 1).1 0 := ((keepS.n1 1)).1
                  have ps98 : (sA (nx (nx (nx gs 1) 1) 1) 0 wx37).1 0 = (nx (nx (nx gs 1) 1) 1).1 0 := rfl
                  exact W.zret (v := 1) hx hb hr rfl (fun t ht hW => ⟨⟨1, (V92, L77), rfl, ⟨hMV92, agV92, alL77, (by decide), (Or.inl ⟨rfl, (sA (nx (nx (nx gs 1) 1) 1) 0 wx37), hr82, rl94, (by omega)⟩)⟩, by rw [ht]; exact hP, va_K.moved hW.alike hK, hD⟩, hS.F ht⟩) hS.2.2 dX1_readType_120
            · skip
              have f99 : z52.toInt = 0 := b_eq rfl (by decide) c65
              exfalso; first | omega | ((try (have i_t55 := Imp.go t55 (by omega))); (try (have i_t9 := Imp.go t9 (by omega))); (try (have i_t8 := Imp.go t8 (by omega))); (try (have i_t8 := Imp.go t8 (by omega))); (try (have i_t9 := Imp.go t9 (by omega))); (try (have i_t55 := Imp.go t55 (by omega))); omega)
          · skip
            have hb100 : ∀ k, Rc gT (Crun gs (Istmt :: k)) (Cbad (V57 1 3).toInt) := fun k => Rc.go1 (hr50 k) ((tk_n (fun h9 => h60 (rl48.tok.1.symm.trans (h9.trans (by decide))))).trans (fl_eq rl48.tok.2.2 k61))
            refine lv_if_ne (tgt := 85) hx hb dX1_readType_80 (by decide) (fun c101 => ?_) (fun c101 => ?_)
            · skip
              have f102 : z52.toInt ≠ 0 := b_neq rfl (by decide) c101
              exfalso; first | omega | ((try (have i_t55 := Imp.go t55 (by omega))); (try (have i_t9 := Imp.go t9 (by omega))); (try (have i_t8 := Imp.go t8 (by omega))); (try (have i_t8 := Imp.go t8 (by omega))); (try (have i_t9 := Imp.go t9 (by omega))); (try (have i_t55 := Imp.go t55 (by omega))); omega)
            · skip
              have f103 : z52.toInt = 0 := b_eq rfl (by decide) c101
              refine lv_iconst (v := 0) hx hb dX1_readType_83 (by decide) ?_
              exact W.zret (v := 0) hx hb hr rfl (fun t ht hW => ⟨⟨0, (V57, L58), rfl, ⟨hMV57, agV57, alL58, (by decide), (Or.inr ⟨rfl, hb100⟩)⟩, by rw [ht]; exact hP, va_K.moved hW.alike hK, hD⟩, hS.F ht⟩) hS.2.2 dX1_readType_84
        · skip
          have f104 : ((V34 6 9)).toInt = 129 := b_eq rfl (by decide) c46
          refine lv_aload_n hx hb dX1_readType_58 rfl (lv_at hl 1 rfl) ?_
          refine va_get (D := D) (ci := 1) (v := .ref (ad 6)) (fs := (xfReader ad V44 L35 Z)) (C := RX1) (T := TX1) (N := 9) hx hb hg inX1 hown hK hP 1 xgReader rfl 0 (by decide) (hg _ w304) (fun _ h9 => h9) rfl dX1_readType_59 ?_
          have rl105 : RelC V44 L35 b gT (nx (nx gs 1) 1) := RelC.ag rl39 (show agr [(1, 7)] [] V34 V44 from (agr.up agr.rf hV44 rfl)) (by decide) (show agL [] L35 L35 from agL.rf) (by decide)
          have kd106 : gT.1 ((nx (nx gs 1) 1).1 0) = ((V34 6 9)).toInt := (RelC.kd rl105).trans (congrArg Int32.toInt (up2_o hV44 (by decide)))
          have hr107 : ∀ k, Rc gT (Crun gs (Istmt :: k)) (Crun (nx (nx (nx gs 1) 1) 1) (Itypes 0 [] :: Itake 59 :: IaddTy wx37 :: Istmt :: k)) := fun k => Rc.go1 (hr41 k) (like_y wx37 (kd106.trans f104))
          have l8108 := RelC.l8 rl105
          have pq109 : (V44 6 8).toInt = ((V34 6 8)).toInt := congrArg Int32.toInt (up2_o hV44 (by decide))
          have r110 : 0 ≤ ((V34 6 8)).toInt ∧ ((V34 6 8)).toInt ≤ 4000 := hMV34 6 8
          have pq111 : (V44 6 7).toInt = ((V 6 7)).toInt := congrArg Int32.toInt ((up2_o hV44 (by decide)).trans ((ajV34 6 7 rfl).trans (ajV24 6 7 rfl)))
          have pq112 : (V44 6 9).toInt = ((V34 6 9)).toInt := congrArg Int32.toInt (up2_o hV44 (by decide))
          have lk113 := RelC.lk rl105 (show (V44 6 9).toInt ≠ 0 from by omega)
          refine gA_void (gA_runV (As := []) (rest := []) (ci := 9) (q0 := 6) hx hb hml hown hg hP hD hK hS hA hnw hgk (x_next2 l D ks H.size ad kk V44 L35 Z  hMV44 (show (V44 6 8).toInt ≤ (V44 6 7).toInt from by first | omega | ((try (have i_t9 := Imp.go t9 (by omega))); (try (have i_t8 := Imp.go t8 (by omega))); (try (have i_t8 := Imp.go t8 (by omega))); (try (have i_t9 := Imp.go t9 (by omega))); omega))) w871 w852 w853 w157 w854 rfl xgTape hdV_yX9_next ⟨Nat.le_of_ble_eq_true rfl, Nat.le_of_ble_eq_true rfl⟩ rfl hl.1 rfl (Nat.le_of_ble_eq_true rfl) dX1_readType_62 ⟨Nat.le_of_ble_eq_true rfl, Nat.le_of_ble_eq_true rfl⟩) hP hD hK hS hA (fun u115 H locs w116 hP hD hK hS => ?_)
          obtain ⟨V119, L120⟩ := u115
          obtain ⟨hMV119, ajV119, axL120, t117, t118⟩ := w116
          have alL120 : agL [1, 6, 44] L L120 := agL.tr alL35 axL120 (by decide)
          have hP : va_P D vwCl (xw ad kk V119 L120 Z) H := hP
          have hD : va_D A (xw ad kk V119 L120 Z) := hD
          have hMV119 : rgd bX V119 := hMV119
          have ajV119 : agr [(6, 8), (6, 9), (6, 10)] [] V44 V119 := ajV119
          have agV119 : agr [(1, 3), (1, 6), (1, 7), (6, 8), (6, 9), (6, 10)] [43, 44, 45] V V119 := agV44.tr ajV119 (by decide) (by decide)
          have t117 : (V119 6 8).toInt ≤ (V119 6 7).toInt := t117
          have t118 : CUR V119 L120 (Int32.toNatClampNeg (V44 6 8)) := t118
          have r121 : 0 ≤ ((V119 6 8)).toInt ∧ ((V119 6 8)).toInt ≤ 4000 := hMV119 6 8
          have pq122 : (V119 6 7).toInt = ((V 6 7)).toInt := congrArg Int32.toInt ((ajV119 6 7 rfl).trans ((up2_o hV44 (by decide)).trans ((ajV34 6 7 rfl).trans (ajV24 6 7 rfl))))
          have rl123 : RelC V119 L120 b gT (nx (nx (nx gs 1) 1) 1) := RelC.nx1 rl105 ajV119 (by decide) axL120 (by decide) (by rw [← lk113]; exact t118) (ajV119 1 3 rfl)
          refine lv_aload_n hx hb dX1_readType_65 rfl (lv_at hl 1 rfl) ?_
          have pq124 : (V119 1 1).toInt = ((V 1 1)).toInt := congrArg Int32.toInt ((ajV119 1 1 rfl).trans ((up2_k hV44 (by decide)).trans ((ajV34 1 1 rfl).trans (ajV24 1 1 rfl))))
          refine gA_int (gA_runV (As := []) (rest := []) (ci := 1) (q0 := 1) hx hb hml hown hg hP hD hK hS hA hnw hgk (x_takeTypes3 l D ks H.size ad kk V119 L120 Z (b) (gT) ((nx (nx (nx gs 1) 1) 1)) hMV119 (show b < 2 from by first | omega | ((try (have i_t9 := Imp.go t9 (by omega))); (try (have i_t8 := Imp.go t8 (by omega))); (try (have i_t8 := Imp.go t8 (by omega))); (try (have i_t9 := Imp.go t9 (by omega))); omega)) (show (V119 1 1).toInt = (b : Int) from by first | omega | ((try (have i_t9 := Imp.go t9 (by omega))); (try (have i_t8 := Imp.go t8 (by omega))); (try (have i_t8 := Imp.go t8 (by omega))); (try (have i_t9 := Imp.go t9 (by omega))); omega)) rl123) w884 w886 w8 w162 w887 rfl xgReader hdV_yX1_takeTypes ⟨Nat.le_of_ble_eq_true rfl, Nat.le_of_ble_eq_true rfl⟩ rfl hl.1 rfl (Nat.le_of_ble_eq_true rfl) dX1_readType_66 ⟨Nat.le_of_ble_eq_true rfl, Nat.le_of_ble_eq_true rfl⟩) hP hD hK hS hA (fun z125 u126 H locs w127 hP hD hK hS => ?_)
          obtain ⟨V129, L130⟩ := u126
          obtain ⟨hMV129, ajV129, axL130, rgz125, t128⟩ := w127
          have alL130 : agL [1, 6, 44] L L130 := agL.tr alL120 axL130 (by decide)
          have hP : va_P D vwCl (xw ad kk V129 L130 Z) H := hP
          have hD : va_D A (xw ad kk V129 L130 Z) := hD
          have hMV129 : rgd bX V129 := hMV129
          have ajV129 : agr [(1, 3), (1, 6), (1, 7), (6, 8), (6, 9), (6, 10)] [] V119 V129 := ajV129
          have agV129 : agr [(1, 3), (1, 6), (1, 7), (6, 8), (6, 9), (6, 10)] [43, 44, 45] V V129 := agV119.tr ajV129 (by decide) (by decide)
          have rgz125 : 0 ≤ z125.toInt ∧ z125.toInt ≤ 1 := rgz125
          have t128 : Rd gT (nx (nx (nx gs 1) 1) 1) (fun k => Itypes 0 [] :: k) (fun k => k) z125.toInt (V129 1 3).toInt (fun s9 => RelC V129 L130 b gT s9 ∧ keepS (nx (nx (nx gs 1) 1) 1) 1 s9) := t128
          rcases t128 with ⟨q131, sx132, h133, rl134, kp135⟩ | ⟨q131, h133⟩
          · skip
            have hr136 : ∀ k, Rc gT (Crun gs (Istmt :: k)) (Crun sx132 (Itake 59 :: IaddTy wx37 :: Istmt :: k)) := fun k => (hr107 k).tr (h133 (Itake 59 :: IaddTy wx37 :: Istmt :: k))
            refine lv_if_ne (tgt := 74) hx hb dX1_readType_69 (by decide) (fun c137 => ?_) (fun c137 => ?_)
            · skip
              have f138 : z125.toInt ≠ 0 := b_neq rfl (by decide) c137
              refine lv_aload_n hx hb dX1_readType_74 rfl (lv_at hl 1 rfl) ?_
              refine lv_bipush (v := 59) hx hb dX1_readType_75 (by decide) ?_
              have r139 : Int32.toInt 59 = 59 := by decide
              refine gA_int (gA_runV (As := [.int 59]) (rest := []) (ci := 1) (q0 := 1) hx hb hml hown hg hP hD hK hS hA hnw hgk (x_take2 l D ks H.size ad kk V129 L130 Z 59 ((sx132.1 0)) hMV129 (rl134).1 (rl134).2.1.1 (show 1 ≤ (Int32.toInt 59) from by first | omega | ((try (have i_t9 := Imp.go t9 (by omega))); (try (have i_t8 := Imp.go t8 (by omega))); (try (have i_t8 := Imp.go t8 (by omega))); (try (have i_t9 := Imp.go t9 (by omega))); omega))) w893 w895 w10 w162 w896 rfl xgReader hdV_yX1_take ⟨Nat.le_of_ble_eq_true rfl, Nat.le_of_ble_eq_true rfl⟩ rfl hl.1 rfl (Nat.le_of_ble_eq_true rfl) dX1_readType_77 ⟨Nat.le_of_ble_eq_true rfl, Nat.le_of_ble_eq_true rfl⟩) hP hD hK hS hA (fun z140 u141 H locs w142 hP hD hK hS => ?_)
              obtain ⟨V145, L146⟩ := u141
              obtain ⟨hMV145, ajV145, axL146, rgz140, t143, t144⟩ := w142
              have alL146 : agL [1, 6, 44] L L146 := agL.tr alL130 axL146 (by decide)
              have hP : va_P D vwCl (xw ad kk V145 L146 Z) H := hP
              have hD : va_D A (xw ad kk V145 L146 Z) := hD
              have hMV145 : rgd bX V145 := hMV145
              have ajV145 : agr [(1, 3), (6, 8), (6, 9), (6, 10)] [] V129 V145 := ajV145
              have agV145 : agr [(1, 3), (1, 6), (1, 7), (6, 8), (6, 9), (6, 10)] [43, 44, 45] V V145 := agV129.tr ajV145 (by decide) (by decide)
              have rgz140 : 0 ≤ z140.toInt ∧ z140.toInt ≤ 1 := rgz140
              have t143 : Imp (z140.toInt = 0) (1 ≤ (V145 1 3).toInt) := t143
              have t144 : (z140.toInt = 1 ∧ (V129 12 (sx132.1 0)).toInt = (Int32.toInt 59) ∧ CUR V145 L146 ((sx132.1 0) + 1) ∧ V145 1 3 = V129 1 3) ∨ (z140.toInt = 0 ∧ (V129 12 (sx132.1 0)).toInt ≠ (Int32.toInt 59) ∧ (V145 1 3).toInt = 1 + 16 * (V129 13 (sx132.1 0)).toInt) := t144
              rcases t144 with ⟨q147, h148, k149, k150⟩ | ⟨q147, h148, k149⟩
              · skip
                have rl151 : RelC V145 L146 b gT (nx sx132 1) := RelC.nx1 rl134 ajV145 (by decide) axL146 (by decide) k149 k150
                have hr152 : ∀ k, Rc gT (Crun gs (Istmt :: k)) (Crun (nx sx132 1) (IaddTy wx37 :: Istmt :: k)) := fun k => Rc.go1 (hr136 k) (tk_y (rl134.tok.1.trans (h148.trans (by decide))))
                refine lv_if_ne (tgt := 85) hx hb dX1_readType_80 (by decide) (fun c153 => ?_) (fun c153 => ?_)
                · skip
                  have f154 : z140.toInt ≠ 0 := b_neq rfl (by decide) c153
                  refine lv_aload_n hx hb dX1_readType_85 rfl (lv_at hl 1 rfl) ?_
                  refine va_get (D := D) (ci := 1) (v := rfN ad 38 (V145 1 1)) (fs := (xfReader ad V145 L146 Z)) (C := RX1) (T := TX1) (N := 9) hx hb hg inX1 hown hK hP 1 xgReader rfl 1 (by decide) (hg _ w305) (fun _ h9 => h9) rfl dX1_readType_86 ?_
                  have pq155 : (V145 1 1).toInt = ((V 1 1)).toInt := congrArg Int32.toInt ((ajV145 1 1 rfl).trans ((ajV129 1 1 rfl).trans ((ajV119 1 1 rfl).trans ((up2_k hV44 (by decide)).trans ((ajV34 1 1 rfl).trans (ajV24 1 1 rfl))))))
                  refine g_topv (v := .ref (ad (38 + b))) (rfN_r (by first | omega | ((try (have i_t143 := Imp.go t143 (by omega))); (try (have i_t9 := Imp.go t9 (by omega))); (try (have i_t8 := Imp.go t8 (by omega))); (try (have i_t8 := Imp.go t8 (by omega))); (try (have i_t9 := Imp.go t9 (by omega))); (try (have i_t143 := Imp.go t143 (by omega))); omega))) ?_
                  refine va_getN (D := D) (ci := 0) (v := .ref (ad (40 + (5 * b + 0)))) (fs := (xfBook ad V145 b)) (C := RX0) (T := TX0) (N := 13) hx hb hg inX0 hown hK hP (38 + b) (xgBook hb2) rfl 0 (by decide) (hnw.use 594 n594 rfl) (fun _ h9 => h9) rfl dX1_readType_89 ?_
                  refine lv_lload_n hx hb dX1_readType_92 rfl (lv_at hl 0 rfl) ?_
                  have ad1 := (rl151.2.2.1 0 (by decide)).1
                  have ad2 := congrArg List.length (((keepS.tr (keepS.tr (keepS.tr (keepS.tr (keepS.tr (keepS.rf : keepS gs 0 gs) (keepS.n1 1)) (keepS.n1 1)) (keepS.n1 1)) kp135) (keepS.n1 1))).2.2.1 0 (by decide))
                  have ad3 := ln0
                  refine gA_int (gA_runV (As := [.long (L35 1 5)]) (rest := []) (ci := 6) (q0 := (40 + (5 * b + 0))) hx hb hml hown hg hP hD hK hS hA hnw hgk (x_add2 l D ks H.size ad kk V145 L146 Z (L35 1 5) ((5 * b + 0)) hMV145 (show (5 * b + 0) < 10 from by first | omega | ((try (have i_t143 := Imp.go t143 (by omega))); (try (have i_t9 := Imp.go t9 (by omega))); (try (have i_t8 := Imp.go t8 (by omega))); (try (have i_t8 := Imp.go t8 (by omega))); (try (have i_t9 := Imp.go t9 (by omega))); (try (have i_t143 := Imp.go t143 (by omega))); omega))) w897 w898 w899 w168 w900 rfl (xgNames il4) hdV_yX6_add ⟨Nat.le_of_ble_eq_true rfl, Nat.le_of_ble_eq_true rfl⟩ rfl hl.1 rfl (Nat.le_of_ble_eq_true rfl) dX1_readType_93 ⟨Nat.le_of_ble_eq_true rfl, Nat.le_of_ble_eq_true rfl⟩) hP hD hK hS hA (fun z156 u157 H locs w158 hP hD hK hS => ?_)
                  obtain ⟨V164, L165⟩ := u157
                  obtain ⟨hMV164, ajV164, axL165, fyV164, rgz156, t159, t160, t161, t162, t163⟩ := w158
                  have alL165 : agL [1, 6, 44] L L165 := agL.tr alL146 axL165 (by decide)
                  have hP : va_P D vwCl (xw ad kk V164 L165 Z) H := hP
                  have hD : va_D A (xw ad kk V164 L165 Z) := hD
                  have hMV164 : rgd bX V164 := hMV164
                  have ajV164 : agr [] [43, 44] V145 V164 := ajV164
                  have agV164 : agr [(1, 3), (1, 6), (1, 7), (6, 8), (6, 9), (6, 10)] [43, 44, 45] V V164 := agV145.tr ajV164 (by decide) (by decide)
                  have rgz156 : (-1) ≤ z156.toInt ∧ z156.toInt ≤ 23 := rgz156
                  have t159 : z156.toInt < (V164 43 (5 * b + 0)).toInt := t159
                  have t160 : Imp ((V145 43 (5 * b + 0)).toInt < ((xcap (5 * b + 0) : Nat) : Int)) (z156.toInt = (V145 43 (5 * b + 0)).toInt ∧ (V164 43 (5 * b + 0)).toInt = (V145 43 (5 * b + 0)).toInt + 1) := t160
                  have t161 : Imp (((xcap (5 * b + 0) : Nat) : Int) ≤ (V145 43 (5 * b + 0)).toInt) (z156.toInt = -1 ∧ (V164 43 (5 * b + 0)).toInt = (V145 43 (5 * b + 0)).toInt) := t161
                  have t162 : ∀ n : Nat, ¬ n = (5 * b + 0) → V164 43 n = V145 43 n := t162
                  have t163 : (z156.toInt = -1 ∧ L165 = L146) ∨ (0 ≤ z156.toInt ∧ L165 = upL L146 44 (24 * (5 * b + 0) + Int32.toNatClampNeg (V145 43 (5 * b + 0))) (L35 1 5)) := t163
                  have ig168 := Imp.go t160 (by first | omega | ((try (have i_t143 := Imp.go t143 (by omega))); (try (have i_t9 := Imp.go t9 (by omega))); (try (have i_t8 := Imp.go t8 (by omega))); (try (have i_t8 := Imp.go t8 (by omega))); (try (have i_t9 := Imp.go t9 (by omega))); (try (have i_t143 := Imp.go t143 (by omega))); omega))
                  rcases t163 with ⟨q166, h167⟩ | ⟨q166, h167⟩
                  · exfalso; omega
                  · skip
                    have rl169 : RelC V164 L165 b gT (sA (nx sx132 1) 0 wx37) := RelC.add rl151 (by decide) ajV164 (by decide) t162 ig168.2 (by rw [← hw40]; exact h167) (sz24 hMV145) (by omega)
                    have hr170 : ∀ k, Rc gT (Crun gs (Istmt :: k)) (Crun (sA (nx sx132 1) 0 wx37) (Istmt :: k)) := fun k => Rc.go1 (hr152 k) (m_addTy wx37)
                    refine lv_istore_n (lv' := [(3, .int z156), (1, .long (L35 1 5)), (0, .ref (ad 1))]) hx hb dX1_readType_96 rfl hl (by decide) rfl (fun ls hl => ?_)
                    refine lv_iload_n hx hb dX1_readType_97 rfl (lv_at hl 0 rfl) ?_
                    refine lv_iconst (v := (-1)) hx hb dX1_readType_98 (by decide) ?_
                    refine lv_icmp_eq (tgt := 119) hx hb dX1_readType_99 (by decide) (fun c171 => ?_) (fun c171 => ?_)
                    · skip
                      have f172 : z156.toInt = (-1) := b_eq rfl (by decide) c171
                      exfalso; first | omega | ((try (have i_t161 := Imp.go t161 (by omega))); (try (have i_t160 := Imp.go t160 (by omega))); (try (have i_t143 := Imp.go t143 (by omega))); (try (have i_t9 := Imp.go t9 (by omega))); (try (have i_t8 := Imp.go t8 (by omega))); (try (have i_t8 := Imp.go t8 (by omega))); (try (have i_t9 := Imp.go t9 (by omega))); (try (have i_t143 := Imp.go t143 (by omega))); (try (have i_t160 := Imp.go t160 (by omega))); (try (have i_t161 := Imp.go t161 (by omega))); omega)
                    · skip
                      have f173 : z156.toInt ≠ (-1) := b_neq rfl (by decide) c171
                      refine lv_aload_n hx hb dX1_readType_102 rfl (lv_at hl 2 rfl) ?_
                      refine va_get (D := D) (ci := 1) (v := rfN ad 38 (V164 1 1)) (fs := (xfReader ad V164 L165 Z)) (C := RX1) (T := TX1) (N := 9) hx hb hg inX1 hown hK hP 1 xgReader rfl 1 (by decide) (hg _ w305) (fun _ h9 => h9) rfl dX1_readType_103 ?_
                      have pq174 : (V164 1 1).toInt = ((V 1 1)).toInt := congrArg Int32.toInt ((ajV164 1 1 rfl).trans ((ajV145 1 1 rfl).trans ((ajV129 1 1 rfl).trans ((ajV119 1 1 rfl).trans ((up2_k hV44 (by decide)).trans ((ajV34 1 1 rfl).trans (ajV24 1 1 rfl)))))))
                      refine g_topv (v := .ref (ad (38 + b))) (rfN_r (by first | omega | ((try (have i_t161 := Imp.go t161 (by omega))); (try (have i_t160 := Imp.go t160 (by omega))); (try (have i_t143 := Imp.go t143 (by omega))); (try (have i_t9 := Imp.go t9 (by omega))); (try (have i_t8 := Imp.go t8 (by omega))); (try (have i_t8 := Imp.go t8 (by omega))); (try (have i_t9 := Imp.go t9 (by omega))); (try (have i_t143 := Imp.go t143 (by omega))); (try (have i_t160 := Imp.go t160 (by omega))); (try (have i_t161 := Imp.go t161 (by omega))); omega))) ?_
                      refine va_getN (D := D) (ci := 0) (v := .ref (ad (60 + b))) (fs := (xfBook ad V164 b)) (C := RX0) (T := TX0) (N := 13) hx hb hg inX0 hown hK hP (38 + b) (xgBook hb2) rfl 5 (by decide) (hnw.use 609 n609 rfl) (fun _ h9 => h9) rfl dX1_readType_106 ?_
                      refine lv_iload_n hx hb dX1_readType_109 rfl (lv_at hl 0 rfl) ?_
                      refine lv_aload_n hx hb dX1_readType_110 rfl (lv_at hl 2 rfl) ?_
                      refine va_get (D := D) (ci := 1) (v := .int (V164 1 7)) (fs := (xfReader ad V164 L165 Z)) (C := RX1) (T := TX1) (N := 9) hx hb hg inX1 hown hK hP 1 xgReader rfl 7 (by decide) (hg _ w311) (fun _ h9 => h9) rfl dX1_readType_111 ?_
                      refine g_top (v := (V129 1 7)) ((ajV164 1 7 rfl).trans (ajV145 1 7 rfl)) ?_
                      refine lv_iconst (v := 1) hx hb dX1_readType_114 (by decide) ?_
                      refine lv_iload_n hx hb dX1_readType_115 rfl (lv_at hl 0 rfl) ?_
                      refine lv_ishl hx hb dX1_readType_116 ?_
                      refine lv_topi (fun z175 ez175 => ?_)
                      have hz175 : 0 ≤ z175.toInt ∧ z175.toInt < 16777216 := shl1 ez175 (by first | omega | ((try (have i_t161 := Imp.go t161 (by omega))); (try (have i_t160 := Imp.go t160 (by omega))); (try (have i_t143 := Imp.go t143 (by omega))); (try (have i_t9 := Imp.go t9 (by omega))); (try (have i_t8 := Imp.go t8 (by omega))); (try (have i_t8 := Imp.go t8 (by omega))); (try (have i_t9 := Imp.go t9 (by omega))); (try (have i_t143 := Imp.go t143 (by omega))); (try (have i_t160 := Imp.go t160 (by omega))); (try (have i_t161 := Imp.go t161 (by omega))); omega))
                      refine lv_ior hx hb dX1_readType_117 ?_
                      refine lv_topi (fun z176 ez176 => ?_)
                      have il177 : b < 2 := by first | omega | ((try (have i_t161 := Imp.go t161 (by omega))); (try (have i_t160 := Imp.go t160 (by omega))); (try (have i_t143 := Imp.go t143 (by omega))); (try (have i_t9 := Imp.go t9 (by omega))); (try (have i_t8 := Imp.go t8 (by omega))); (try (have i_t8 := Imp.go t8 (by omega))); (try (have i_t9 := Imp.go t9 (by omega))); (try (have i_t143 := Imp.go t143 (by omega))); (try (have i_t160 := Imp.go t160 (by omega))); (try (have i_t161 := Imp.go t161 (by omega))); omega)
                      refine va_iast (D := D) (i := z156) (x := z176) hx hb hK hP hD hS (60 + b) (53 + b) (xgtypeUnder il177) (xttypeUnder il177) (i_in (a := z156.toInt) rfl (by first | omega | ((try (have i_t161 := Imp.go t161 (by omega))); (try (have i_t160 := Imp.go t160 (by omega))); (try (have i_t143 := Imp.go t143 (by omega))); (try (have i_t9 := Imp.go t9 (by omega))); (try (have i_t8 := Imp.go t8 (by omega))); (try (have i_t8 := Imp.go t8 (by omega))); (try (have i_t9 := Imp.go t9 (by omega))); (try (have i_t143 := Imp.go t143 (by omega))); (try (have i_t160 := Imp.go t160 (by omega))); (try (have i_t161 := Imp.go t161 (by omega))); omega))) dX1_readType_118 (fun H locs hP hD hS => ?_)
                      have kc178 := i_clamp (x := z156) rfl (by first | omega | ((try (have i_t161 := Imp.go t161 (by omega))); (try (have i_t160 := Imp.go t160 (by omega))); (try (have i_t143 := Imp.go t143 (by omega))); (try (have i_t9 := Imp.go t9 (by omega))); (try (have i_t8 := Imp.go t8 (by omega))); (try (have i_t8 := Imp.go t8 (by omega))); (try (have i_t9 := Imp.go t9 (by omega))); (try (have i_t143 := Imp.go t143 (by omega))); (try (have i_t160 := Imp.go t160 (by omega))); (try (have i_t161 := Imp.go t161 (by omega))); omega))
                      have kl179 : (Int32.toNatClampNeg z156) < 24 := by first | omega | ((try (have i_t161 := Imp.go t161 (by omega))); (try (have i_t160 := Imp.go t160 (by omega))); (try (have i_t143 := Imp.go t143 (by omega))); (try (have i_t9 := Imp.go t9 (by omega))); (try (have i_t8 := Imp.go t8 (by omega))); (try (have i_t8 := Imp.go t8 (by omega))); (try (have i_t9 := Imp.go t9 (by omega))); (try (have i_t143 := Imp.go t143 (by omega))); (try (have i_t160 := Imp.go t160 (by omega))); (try (have i_t161 := Imp.go t161 (by omega))); omega)
                      obtain ⟨V180, hV180⟩ : ∃ z, z = up2 V164 45 (24 * b + (Int32.toNatClampNeg z156)) z176 := ⟨_, rfl⟩
                      have ew181 : (xw ad kk V164 L165 Z).set (60 + b) ((ad (60 + b)), .inl ((kk (60 + b)), 24, .inl (upd (fun q => if q < 24 then V164 45 (24 * b + q) else 0) (Int32.toNatClampNeg z156) z176))) = xw ad kk V180 L165 Z := by rw [hV180]; exact xptypeUnder il177 kl179
                      have hP : va_P D vwCl (xw ad kk V180 L165 Z) H := by rw [← ew181]; exact hP
                      have hD : va_D A (xw ad kk V180 L165 Z) := by rw [← ew181]; exact hD
                      have hMV180 : rgd bX V180 := hMV164.put hV180 (i_full _)
                      have agV180 : agr [(1, 3), (1, 6), (1, 7), (6, 8), (6, 9), (6, 10)] [43, 44, 45] V V180 := agV164.up hV180 rfl
                      refine lv_iconst (v := 1) hx hb dX1_readType_119 (by decide) ?_
                      have rl182 : RelC V180 L165 b gT (sA (nx sx132 1) 0 wx37) := RelC.ag rl169 (show agr [] [45] V164 V180 from (agr.up agr.rf hV180 rfl)) (by decide) (show agL [] L165 L165 from agL.rf) (by decide)
                      have ps183 : gs.1 0 + 1 ≤ (nx gs 1).1 0 := ((keepS.n1 1)).1
                      have ps184 : (nx gs 1).1 0 + 1 ≤ (nx (nx gs 1) 1).1 0 := ((keepS.n1 1)).1
                      have ps185 : (nx (nx gs 1) 1).1 0 + 1 ≤ (nx (nx (nx gs 1) 1) 1).1 0 := ((keepS.n1 1)).1
                      have ps186 : (nx (nx (nx gs 1) 1) 1).1 0 + 1 ≤ sx132.1 0 := (kp135).1
                      have ps187 : sx132.1 0 + 1 ≤ (nx sx132 1).1 0 := ((keepS.n1 1)).1
                      have ps188 : (sA (nx sx132 1) 0 wx37).1 0 = (nx sx132 1).1 0 := rfl
                      exact W.zret (v := 1) hx hb hr rfl (fun t ht hW => ⟨⟨1, (V180, L165), rfl, ⟨hMV180, agV180, alL165, (by decide), (Or.inl ⟨rfl, (sA (nx sx132 1) 0 wx37), hr170, rl182, (by omega)⟩)⟩, by rw [ht]; exact hP, va_K.moved hW.alike hK, hD⟩, hS.F ht⟩) hS.2.2 dX1_readType_120
                · skip
                  have f189 : z140.toInt = 0 := b_eq rfl (by decide) c153
                  exfalso; first | omega | ((try (have i_t143 := Imp.go t143 (by omega))); (try (have i_t9 := Imp.go t9 (by omega))); (try (have i_t8 := Imp.go t8 (by omega))); (try (have i_t8 := Imp.go t8 (by omega))); (try (have i_t9 := Imp.go t9 (by omega))); (try (have i_t143 := Imp.go t143 (by omega))); omega)
              · skip
                have hb190 : ∀ k, Rc gT (Crun gs (Istmt :: k)) (Cbad (V145 1 3).toInt) := fun k => Rc.go1 (hr136 k) ((tk_n (fun h9 => h148 (rl134.tok.1.symm.trans (h9.trans (by decide))))).trans (fl_eq rl134.tok.2.2 k149))
                refine lv_if_ne (tgt := 85) hx hb dX1_readType_80 (by decide) (fun c191 => ?_) (fun c191 => ?_)
                · skip
                  have f192 : z140.toInt ≠ 0 := b_neq rfl (by decide) c191
                  exfalso; first | omega | ((try (have i_t143 := Imp.go t143 (by omega))); (try (have i_t9 := Imp.go t9 (by omega))); (try (have i_t8 := Imp.go t8 (by omega))); (try (have i_t8 := Imp.go t8 (by omega))); (try (have i_t9 := Imp.go t9 (by omega))); (try (have i_t143 := Imp.go t143 (by omega))); omega)
                · skip
                  have f193 : z140.toInt = 0 := b_eq rfl (by decide) c191
                  refine lv_iconst (v := 0) hx hb dX1_readType_83 (by decide) ?_
                  exact W.zret (v := 0) hx hb hr rfl (fun t ht hW => ⟨⟨0, (V145, L146), rfl, ⟨hMV145, agV145, alL146, (by decide), (Or.inr ⟨rfl, hb190⟩)⟩, by rw [ht]; exact hP, va_K.moved hW.alike hK, hD⟩, hS.F ht⟩) hS.2.2 dX1_readType_84
            · skip
              have f194 : z125.toInt = 0 := b_eq rfl (by decide) c137
              exfalso; first | omega | ((try (have i_t9 := Imp.go t9 (by omega))); (try (have i_t8 := Imp.go t8 (by omega))); (try (have i_t8 := Imp.go t8 (by omega))); (try (have i_t9 := Imp.go t9 (by omega))); omega)
          · skip
            have hb195 : ∀ k, Rc gT (Crun gs (Istmt :: k)) (Cbad (V129 1 3).toInt) := fun k => (hr107 k).tr (h133 (Itake 59 :: IaddTy wx37 :: Istmt :: k))
            refine lv_if_ne (tgt := 74) hx hb dX1_readType_69 (by decide) (fun c196 => ?_) (fun c196 => ?_)
            · skip
              have f197 : z125.toInt ≠ 0 := b_neq rfl (by decide) c196
              exfalso; first | omega | ((try (have i_t9 := Imp.go t9 (by omega))); (try (have i_t8 := Imp.go t8 (by omega))); (try (have i_t8 := Imp.go t8 (by omega))); (try (have i_t9 := Imp.go t9 (by omega))); omega)
            · skip
              have f198 : z125.toInt = 0 := b_eq rfl (by decide) c196
              refine lv_iconst (v := 0) hx hb dX1_readType_72 (by decide) ?_
              exact W.zret (v := 0) hx hb hr rfl (fun t ht hW => ⟨⟨0, (V129, L130), rfl, ⟨hMV129, agV129, alL130, (by decide), (Or.inr ⟨rfl, hb195⟩)⟩, by rw [ht]; exact hP, va_K.moved hW.alike hK, hD⟩, hS.F ht⟩) hS.2.2 dX1_readType_73
      · skip
        have f199 : z30.toInt = 0 := b_eq rfl (by decide) c42
        exfalso; first | omega | ((try (have i_t9 := Imp.go t9 (by omega))); (try (have i_t8 := Imp.go t8 (by omega))); (try (have i_t8 := Imp.go t8 (by omega))); (try (have i_t9 := Imp.go t9 (by omega))); omega)
    · skip
      have hb200 : ∀ k, Rc gT (Crun gs (Istmt :: k)) (Cbad (V34 1 3).toInt) := fun k => Rc.go1 (hr14 k) (nt_b h38)
      refine lv_if_ne (tgt := 35) hx hb dX1_readType_30 (by decide) (fun c201 => ?_) (fun c201 => ?_)
      · skip
        have f202 : z30.toInt ≠ 0 := b_neq rfl (by decide) c201
        exfalso; first | omega | ((try (have i_t9 := Imp.go t9 (by omega))); (try (have i_t8 := Imp.go t8 (by omega))); (try (have i_t8 := Imp.go t8 (by omega))); (try (have i_t9 := Imp.go t9 (by omega))); omega)
      · skip
        have f203 : z30.toInt = 0 := b_eq rfl (by decide) c201
        refine lv_iconst (v := 0) hx hb dX1_readType_33 (by decide) ?_
        exact W.zret (v := 0) hx hb hr rfl (fun t ht hW => ⟨⟨0, (V34, L35), rfl, ⟨hMV34, agV34, alL35, (by decide), (Or.inr ⟨rfl, hb200⟩)⟩, by rw [ht]; exact hP, va_K.moved hW.alike hK, hD⟩, hS.F ht⟩) hS.2.2 dX1_readType_34
  · skip
    have f204 : z5.toInt ≠ 0 := b_neq rfl (by decide) c10
    refine lv_aload_n hx hb dX1_readType_13 rfl (lv_at hl 0 rfl) ?_
    refine lv_iconst (v := 5) hx hb dX1_readType_14 (by decide) ?_
    have kd205 : gT.1 (gs.1 0) = ((V 6 9)).toInt := RelC.kd rel
    have r206 : Int32.toInt 5 = 5 := by decide
    refine gA_int (gA_runV (As := [.int 5]) (rest := []) (ci := 1) (q0 := 1) hx hb hml hown hg hP hD hK hS hA hnw hgk (x_wrong2 l D ks H.size ad kk V L Z 5 hMV (by decide)) w867 w869 w6 w162 w870 rfl xgReader hdV_yX1_wrong ⟨Nat.le_of_ble_eq_true rfl, Nat.le_of_ble_eq_true rfl⟩ rfl hl.1 rfl (Nat.le_of_ble_eq_true rfl) dX1_readType_15 ⟨Nat.le_of_ble_eq_true rfl, Nat.le_of_ble_eq_true rfl⟩) hP hD hK hS hA (fun z207 u208 H locs w209 hP hD hK hS => ?_)
    obtain ⟨V212, L213⟩ := u208
    obtain ⟨hMV212, ajV212, axL213, rgz207, t210, t211⟩ := w209
    have axL213 : L = L213 := Eq.symm axL213
    subst axL213
    have hP : va_P D vwCl (xw ad kk V212 L Z) H := hP
    have hD : va_D A (xw ad kk V212 L Z) := hD
    have hMV212 : rgd bX V212 := hMV212
    have ajV212 : agr [(1, 3)] [] V V212 := ajV212
    have agV212 : agr [(1, 3), (1, 6), (1, 7), (6, 8), (6, 9), (6, 10)] [43, 44, 45] V V212 := agV.tr ajV212 (by decide) (by decide)
    have rgz207 : 0 ≤ z207.toInt ∧ z207.toInt ≤ 0 := rgz207
    have t210 : 1 ≤ (V212 1 3).toInt := t210
    have t211 : (V212 1 3).toInt = (Int32.toInt 5) + 16 * (V 6 10).toInt := t211
    have r214 : 0 ≤ ((V 6 10)).toInt ∧ ((V 6 10)).toInt ≤ 4000 := hMV 6 10
    have hr215 : ∀ k, Rc gT (Crun gs (Istmt :: k)) (Crun gs (Istmt :: k)) := fun k => Rc.rf
    have hb216 : ∀ k, Rc gT (Crun gs (Istmt :: k)) (Cbad (V212 1 3).toInt) := fun k => Rc.go1 (hr215 k) ((st_128f (kd205.trans kd9) (by first | omega | ((try (have i_t9 := Imp.go t9 (by omega))); (try (have i_t8 := Imp.go t8 (by omega))); (try (have i_t8 := Imp.go t8 (by omega))); (try (have i_t9 := Imp.go t9 (by omega))); omega))).trans (fl_eq (RelC.st rel) (show (V212 1 3).toInt = 5 + 16 * (V 6 10).toInt from by omega)))
    exact W.zret (v := z207) hx hb hr (nb_ok (by omega)) (fun t ht hW => ⟨⟨z207, (V212, L), rfl, ⟨hMV212, agV212, alL, (show 0 ≤ z207.toInt ∧ z207.toInt ≤ 1 from by first | omega | ((try (have i_t9 := Imp.go t9 (by omega))); (try (have i_t8 := Imp.go t8 (by omega))); (try (have i_t8 := Imp.go t8 (by omega))); (try (have i_t9 := Imp.go t9 (by omega))); omega)), (Or.inr ⟨(by omega), hb216⟩)⟩, by rw [ht]; exact hP, va_K.moved hW.alike hK, hD⟩, hS.F ht⟩) hS.2.2 dX1_readType_18
abbrev r_x_readSetting3 : Room := { frames := 3, cells := 0, slots := 0, locals := 65 }
abbrev q_x_readSetting3 (D : va_G) (ks : KS) (ad : Nat → Nat) (kk : Nat → ClassId) (V : Vf) (L : Lf) (Z : XZ) (b : Nat) (gT : Tk) (gs : St) (A : Nat → Prop) : Array Value → State → Outcome → State → Prop := va_Qi (fun (r : Int32) (u : Vf × Lf) => rgd bX u.1 ∧ agr [(1, 3), (1, 8), (6, 8), (6, 9), (6, 10)] [43, 44, 46] V u.1 ∧ agL [1, 6, 44] L u.2 ∧ (0 ≤ r.toInt ∧ r.toInt ≤ 1) ∧ (Rd gT gs (fun k => Istmt :: k) (fun k => Istmt :: k) r.toInt (u.1 1 3).toInt (fun s9 => RelC u.1 u.2 b gT s9 ∧ gs.1 0 + 1 ≤ s9.1 0))) (fun u t => gq D A (xw ad kk u.1 u.2 Z) (xty kk Z) t) A
set_option maxHeartbeats 4000000 in
set_option maxRecDepth 100000 in
theorem x_readSetting3 (l : Launch) (D : va_G) (ks : KS) (sz : Nat) (ad : Nat → Nat) (kk : Nat → ClassId) (V : Vf) (L : Lf) (Z : XZ) (b : Nat) (gT : Tk) (gs : St) (hMV : rgd bX V) (hb2 : b < 2) (rbk : (V 1 1).toInt = (b : Int)) (own : (V 1 2).toInt = -1) (rel : RelC V L b gT gs) (kd9 : (V 6 9).toInt = 130)  : Met l yX1_readSetting (Cond.code yX1_readSetting cX1_readSetting 4 (some .boolean) :: GW) r_x_readSetting3 (va_Pc [.ref (ad 1)] (gp D ks (xw ad kk V L Z) (xty kk Z) sz)) (q_x_readSetting3 D ks ad kk V L Z  b gT gs (va_A (xw ad kk V L Z) sz)) 0 0 (va_A (xw ad kk V L Z) sz) := by
  refine g_met (q_x_readSetting3 D ks ad kk V L Z  b gT gs) (by decide) (Nat.le_of_ble_eq_true rfl) ?_
  intro p e s m below meth c A ls H locs hx hb hr hml hown hg hlocks hin hnw hgk hP hK hD hS hA hl
  have hown : s.vm.findClass RX1 = some m.cls := hown
  have hl : lv_has ls 4 [(0, .ref (ad 1))] := hl
  have hP : va_P D vwCl (xw ad kk V L Z) H := hP
  have hD : va_D A (xw ad kk V L Z) := hD
  have hK : va_K D vwCl (xty kk Z) s := hK
  have agV : agr [(1, 3), (1, 8), (6, 8), (6, 9), (6, 10)] [43, 44, 46] V V := agr.rf
  have alL : agL [1, 6, 44] L L := agL.rf
  have r1 : (-1) ≤ ((V 1 1)).toInt ∧ ((V 1 1)).toInt ≤ 1 := hMV 1 1
  have r2 : (-1) ≤ ((V 1 2)).toInt ∧ ((V 1 2)).toInt ≤ 47 := hMV 1 2
  have ln0 := (rel.2.2.1 1 (by decide)).1
  have r3 : xcap (5 * b + 1) = 12 := xcap_1
  refine lv_aload_n hx hb dX1_readSetting_0 rfl (lv_at hl 0 rfl) ?_
  refine va_get (D := D) (ci := 1) (v := rfN ad 38 (V 1 1)) (fs := (xfReader ad V L Z)) (C := RX1) (T := TX1) (N := 9) hx hb hg inX1 hown hK hP 1 xgReader rfl 1 (by decide) (hg _ w305) (fun _ h9 => h9) rfl dX1_readSetting_1 ?_
  refine g_topv (v := .ref (ad (38 + b))) (rfN_r (by omega)) ?_
  refine va_getN (D := D) (ci := 0) (v := .ref (ad (40 + (5 * b + 1)))) (fs := (xfBook ad V b)) (C := RX0) (T := TX0) (N := 13) hx hb hg inX0 hown hK hP (38 + b) (xgBook hb2) rfl 1 (by decide) (hnw.use 597 n597 rfl) (fun _ h9 => h9) rfl dX1_readSetting_4 ?_
  have il4 : (5 * b + 1) < 10 := by omega
  refine gA_int (gA_runV (As := []) (rest := []) (ci := 6) (q0 := (40 + (5 * b + 1))) hx hb hml hown hg hP hD hK hS hA hnw hgk (x_isFull2 l D ks H.size ad kk V L Z ((5 * b + 1)) hMV (show (5 * b + 1) < 10 from by omega)) w863 w864 w865 w168 w866 rfl (xgNames il4) hdV_yX6_isFull ⟨Nat.le_of_ble_eq_true rfl, Nat.le_of_ble_eq_true rfl⟩ rfl hl.1 rfl (Nat.le_of_ble_eq_true rfl) dX1_readSetting_7 ⟨Nat.le_of_ble_eq_true rfl, Nat.le_of_ble_eq_true rfl⟩) hP hD hK hS hA (fun z5 u6 H locs w7 hP hD hK hS => ?_)
  obtain ⟨rgz5, t8, t9⟩ := w7
  have rgz5 : 0 ≤ z5.toInt ∧ z5.toInt ≤ 1 := rgz5
  have t8 : Imp (z5.toInt = 0) ((V 43 (5 * b + 1)).toInt < ((xcap (5 * b + 1) : Nat) : Int)) := t8
  have t9 : Imp (z5.toInt = 1) (((xcap (5 * b + 1) : Nat) : Int) ≤ (V 43 (5 * b + 1)).toInt) := t9
  refine lv_if_eq (tgt := 19) hx hb dX1_readSetting_10 (by decide) (fun c10 => ?_) (fun c10 => ?_)
  · skip
    have f11 : z5.toInt = 0 := b_eq rfl (by decide) c10
    refine lv_aload_n hx hb dX1_readSetting_19 rfl (lv_at hl 0 rfl) ?_
    refine va_get (D := D) (ci := 1) (v := .ref (ad 6)) (fs := (xfReader ad V L Z)) (C := RX1) (T := TX1) (N := 9) hx hb hg inX1 hown hK hP 1 xgReader rfl 0 (by decide) (hg _ w304) (fun _ h9 => h9) rfl dX1_readSetting_20 ?_
    have hr12 : ∀ k, Rc gT (Crun gs (Istmt :: k)) (Crun gs (Istmt :: k)) := fun k => Rc.rf
    have kd13 : gT.1 (gs.1 0) = ((V 6 9)).toInt := RelC.kd rel
    have hr14 : ∀ k, Rc gT (Crun gs (Istmt :: k)) (Crun (nx gs 1) (InewSet :: k)) := fun k => Rc.go1 (hr12 k) (st_130 (kd13.trans kd9) (by first | omega | ((try (have i_t9 := Imp.go t9 (by omega))); (try (have i_t8 := Imp.go t8 (by omega))); (try (have i_t8 := Imp.go t8 (by omega))); (try (have i_t9 := Imp.go t9 (by omega))); omega)))
    have l815 := RelC.l8 rel
    have r16 : 0 ≤ ((V 6 8)).toInt ∧ ((V 6 8)).toInt ≤ 4000 := hMV 6 8
    have r17 : 0 ≤ ((V 6 7)).toInt ∧ ((V 6 7)).toInt ≤ 4000 := hMV 6 7
    have lk18 := RelC.lk rel (show (V 6 9).toInt ≠ 0 from by omega)
    refine gA_void (gA_runV (As := []) (rest := []) (ci := 9) (q0 := 6) hx hb hml hown hg hP hD hK hS hA hnw hgk (x_next2 l D ks H.size ad kk V L Z  hMV (show (V 6 8).toInt ≤ (V 6 7).toInt from by first | omega | ((try (have i_t9 := Imp.go t9 (by omega))); (try (have i_t8 := Imp.go t8 (by omega))); (try (have i_t8 := Imp.go t8 (by omega))); (try (have i_t9 := Imp.go t9 (by omega))); omega))) w871 w852 w853 w157 w854 rfl xgTape hdV_yX9_next ⟨Nat.le_of_ble_eq_true rfl, Nat.le_of_ble_eq_true rfl⟩ rfl hl.1 rfl (Nat.le_of_ble_eq_true rfl) dX1_readSetting_23 ⟨Nat.le_of_ble_eq_true rfl, Nat.le_of_ble_eq_true rfl⟩) hP hD hK hS hA (fun u20 H locs w21 hP hD hK hS => ?_)
    obtain ⟨V24, L25⟩ := u20
    obtain ⟨hMV24, ajV24, axL25, t22, t23⟩ := w21
    have alL25 : agL [1, 6, 44] L L25 := agL.tr alL axL25 (by decide)
    have hP : va_P D vwCl (xw ad kk V24 L25 Z) H := hP
    have hD : va_D A (xw ad kk V24 L25 Z) := hD
    have hMV24 : rgd bX V24 := hMV24
    have ajV24 : agr [(6, 8), (6, 9), (6, 10)] [] V V24 := ajV24
    have agV24 : agr [(1, 3), (1, 8), (6, 8), (6, 9), (6, 10)] [43, 44, 46] V V24 := agV.tr ajV24 (by decide) (by decide)
    have t22 : (V24 6 8).toInt ≤ (V24 6 7).toInt := t22
    have t23 : CUR V24 L25 (Int32.toNatClampNeg (V 6 8)) := t23
    have r26 : 0 ≤ ((V24 6 8)).toInt ∧ ((V24 6 8)).toInt ≤ 4000 := hMV24 6 8
    have pq27 : (V24 6 7).toInt = ((V 6 7)).toInt := congrArg Int32.toInt (ajV24 6 7 rfl)
    have rl28 : RelC V24 L25 b gT (nx gs 1) := RelC.nx1 rel ajV24 (by decide) axL25 (by decide) (by rw [← lk18]; exact t23) (ajV24 1 3 rfl)
    refine lv_aload_n hx hb dX1_readSetting_26 rfl (lv_at hl 0 rfl) ?_
    have pq29 : (V24 1 1).toInt = ((V 1 1)).toInt := congrArg Int32.toInt (ajV24 1 1 rfl)
    refine gA_int (gA_runV (As := []) (rest := []) (ci := 1) (q0 := 1) hx hb hml hown hg hP hD hK hS hA hnw hgk (x_takeNewName3 l D ks H.size ad kk V24 L25 Z (b) (gT) ((nx gs 1)) hMV24 (show b < 2 from by first | omega | ((try (have i_t9 := Imp.go t9 (by omega))); (try (have i_t8 := Imp.go t8 (by omega))); (try (have i_t8 := Imp.go t8 (by omega))); (try (have i_t9 := Imp.go t9 (by omega))); omega)) (show (V24 1 1).toInt = (b : Int) from by first | omega | ((try (have i_t9 := Imp.go t9 (by omega))); (try (have i_t8 := Imp.go t8 (by omega))); (try (have i_t8 := Imp.go t8 (by omega))); (try (have i_t9 := Imp.go t9 (by omega))); omega)) rl28) w872 w874 w7 w162 w875 rfl xgReader hdV_yX1_takeNewName ⟨Nat.le_of_ble_eq_true rfl, Nat.le_of_ble_eq_true rfl⟩ rfl hl.1 rfl (Nat.le_of_ble_eq_true rfl) dX1_readSetting_27 ⟨Nat.le_of_ble_eq_true rfl, Nat.le_of_ble_eq_true rfl⟩) hP hD hK hS hA (fun z30 u31 H locs w32 hP hD hK hS => ?_)
    obtain ⟨V34, L35⟩ := u31
    obtain ⟨hMV34, ajV34, axL35, rgz30, t33⟩ := w32
    have alL35 : agL [1, 6, 44] L L35 := agL.tr alL25 axL35 (by decide)
    have hP : va_P D vwCl (xw ad kk V34 L35 Z) H := hP
    have hD : va_D A (xw ad kk V34 L35 Z) := hD
    have hMV34 : rgd bX V34 := hMV34
    have ajV34 : agr [(1, 3), (6, 8), (6, 9), (6, 10)] [] V24 V34 := ajV34
    have agV34 : agr [(1, 3), (1, 8), (6, 8), (6, 9), (6, 10)] [43, 44, 46] V V34 := agV24.tr ajV34 (by decide) (by decide)
    have rgz30 : 0 ≤ z30.toInt ∧ z30.toInt ≤ 1 := rgz30
    have t33 : KcW (newN gT (nx gs 1)) z30.toInt (V34 1 3).toInt (fun w9 => RelC V34 L35 b gT (nx (nx gs 1) 1) ∧ L35 1 5 = w9) := t33
    rcases t33 with ⟨q36, wx37, h38, rl39, hw40⟩ | ⟨q36, h38⟩
    · skip
      have hr41 : ∀ k, Rc gT (Crun gs (Istmt :: k)) (Crun (nx (nx gs 1) 1) (Inum 0 999999999 :: Itake 59 :: IaddSe wx37 :: Istmt :: k)) := fun k => Rc.go1 (hr14 k) (ns_y h38)
      refine lv_if_ne (tgt := 35) hx hb dX1_readSetting_30 (by decide) (fun c42 => ?_) (fun c42 => ?_)
      · skip
        have f43 : z30.toInt ≠ 0 := b_neq rfl (by decide) c42
        refine lv_aload_n hx hb dX1_readSetting_35 rfl (lv_at hl 0 rfl) ?_
        refine va_get (D := D) (ci := 1) (v := .long (L35 1 5)) (fs := (xfReader ad V34 L35 Z)) (C := RX1) (T := TX1) (N := 9) hx hb hg inX1 hown hK hP 1 xgReader rfl 5 (by decide) (hg _ w309) (fun _ h9 => h9) rfl dX1_readSetting_36 ?_
        refine lv_lstore_n (lv' := [(1, .long (L35 1 5)), (0, .ref (ad 1))]) hx hb dX1_readSetting_39 rfl hl (by decide) rfl (fun ls hl => ?_)
        refine lv_aload_n hx hb dX1_readSetting_40 rfl (lv_at hl 1 rfl) ?_
        refine lv_iconst (v := 0) hx hb dX1_readSetting_41 (by decide) ?_
        refine lv_ldc (v := 999999999) hx hb hown (hg _ w905) dX1_readSetting_42 ?_
        have r44 : Int32.toInt 0 = 0 := by decide
        have r45 : Int32.toInt 999999999 = 999999999 := by decide
        refine gA_int (gA_runV (As := [.int 0, .int 999999999]) (rest := []) (ci := 1) (q0 := 1) hx hb hml hown hg hP hD hK hS hA hnw hgk (x_takeNumber2 l D ks H.size ad kk V34 L35 Z 0 999999999 (((nx (nx gs 1) 1).1 0)) hMV34 (rl39).1 (rl39).2.1.1 (show 0 ≤ (Int32.toInt 0) from by first | omega | ((try (have i_t9 := Imp.go t9 (by omega))); (try (have i_t8 := Imp.go t8 (by omega))); (try (have i_t8 := Imp.go t8 (by omega))); (try (have i_t9 := Imp.go t9 (by omega))); omega)) (show (Int32.toInt 999999999) ≤ 999999999 from by first | omega | ((try (have i_t9 := Imp.go t9 (by omega))); (try (have i_t8 := Imp.go t8 (by omega))); (try (have i_t8 := Imp.go t8 (by omega))); (try (have i_t9 := Imp.go t9 (by omega))); omega))) w906 w908 w12 w162 w909 rfl xgReader hdV_yX1_takeNumber ⟨Nat.le_of_ble_eq_true rfl, Nat.le_of_ble_eq_true rfl⟩ rfl hl.1 rfl (Nat.le_of_ble_eq_true rfl) dX1_readSetting_44 ⟨Nat.le_of_ble_eq_true rfl, Nat.le_of_ble_eq_true rfl⟩) hP hD hK hS hA (fun z46 u47 H locs w48 hP hD hK hS => ?_)
        obtain ⟨V52, L53⟩ := u47
        obtain ⟨hMV52, ajV52, axL53, rgz46, t49, t50, t51⟩ := w48
        have alL53 : agL [1, 6, 44] L L53 := agL.tr alL35 axL53 (by decide)
        have hP : va_P D vwCl (xw ad kk V52 L53 Z) H := hP
        have hD : va_D A (xw ad kk V52 L53 Z) := hD
        have hMV52 : rgd bX V52 := hMV52
        have ajV52 : agr [(1, 3), (1, 8), (6, 8), (6, 9), (6, 10)] [] V34 V52 := ajV52
        have agV52 : agr [(1, 3), (1, 8), (6, 8), (6, 9), (6, 10)] [43, 44, 46] V V52 := agV34.tr ajV52 (by decide) (by decide)
        have rgz46 : 0 ≤ z46.toInt ∧ z46.toInt ≤ 1 := rgz46
        have t49 : Imp (z46.toInt = 1) ((Int32.toInt 0) ≤ (V52 1 8).toInt ∧ (V52 1 8).toInt ≤ (Int32.toInt 999999999)) := t49
        have t50 : Imp (z46.toInt = 0) (1 ≤ (V52 1 3).toInt) := t50
        have t51 : (z46.toInt = 1 ∧ (V34 12 ((nx (nx gs 1) 1).1 0)).toInt = 2 ∧ (Int32.toInt 0) ≤ (L35 14 ((nx (nx gs 1) 1).1 0)).toInt ∧ (L35 14 ((nx (nx gs 1) 1).1 0)).toInt ≤ (Int32.toInt 999999999) ∧ CUR V52 L53 (((nx (nx gs 1) 1).1 0) + 1) ∧ (V52 1 8).toInt = (L35 14 ((nx (nx gs 1) 1).1 0)).toInt ∧ V52 1 3 = V34 1 3) ∨ (z46.toInt = 0 ∧ (((V34 12 ((nx (nx gs 1) 1).1 0)).toInt ≠ 2 ∧ (V52 1 3).toInt = 1 + 16 * (V34 13 ((nx (nx gs 1) 1).1 0)).toInt) ∨ ((V34 12 ((nx (nx gs 1) 1).1 0)).toInt = 2 ∧ ((L35 14 ((nx (nx gs 1) 1).1 0)).toInt < (Int32.toInt 0) ∨ (Int32.toInt 999999999) < (L35 14 ((nx (nx gs 1) 1).1 0)).toInt) ∧ (V52 1 3).toInt = 4 + 16 * (V34 13 ((nx (nx gs 1) 1).1 0)).toInt))) := t51
        have r54 : 0 ≤ ((V52 1 8)).toInt ∧ ((V52 1 8)).toInt ≤ 999999999 := hMV52 1 8
        have nv62 := congrArg Int64.toInt rl39.tok.2.1
        rcases t51 with ⟨q55, h56, h57, h58, k59, k60, k61⟩ | ⟨q55, ⟨h56, k59⟩ | ⟨h56, h57, k59⟩⟩
        · skip
          have rl63 : RelC V52 L53 b gT (nx (nx (nx gs 1) 1) 1) := RelC.nx1 rl39 ajV52 (by decide) axL53 (by decide) k59 k61
          have hr64 : ∀ k, Rc gT (Crun gs (Istmt :: k)) (Crun (nx (nx (nx gs 1) 1) 1) (Itake 59 :: IaddSe wx37 :: Istmt :: k)) := fun k => Rc.go1 (hr41 k) (nm_y (rl39.tok.1.trans h56) (by omega) (by omega))
          refine lv_if_eq (tgt := 59) hx hb dX1_readSetting_47 (by decide) (fun c65 => ?_) (fun c65 => ?_)
          · skip
            have f66 : z46.toInt = 0 := b_eq rfl (by decide) c65
            exfalso; first | omega | ((try (have i_t50 := Imp.go t50 (by omega))); (try (have i_t49 := Imp.go t49 (by omega))); (try (have i_t9 := Imp.go t9 (by omega))); (try (have i_t8 := Imp.go t8 (by omega))); (try (have i_t8 := Imp.go t8 (by omega))); (try (have i_t9 := Imp.go t9 (by omega))); (try (have i_t49 := Imp.go t49 (by omega))); (try (have i_t50 := Imp.go t50 (by omega))); omega)
          · skip
            have f67 : z46.toInt ≠ 0 := b_neq rfl (by decide) c65
            refine lv_aload_n hx hb dX1_readSetting_50 rfl (lv_at hl 1 rfl) ?_
            refine lv_bipush (v := 59) hx hb dX1_readSetting_51 (by decide) ?_
            have r68 : Int32.toInt 59 = 59 := by decide
            refine gA_int (gA_runV (As := [.int 59]) (rest := []) (ci := 1) (q0 := 1) hx hb hml hown hg hP hD hK hS hA hnw hgk (x_take2 l D ks H.size ad kk V52 L53 Z 59 (((nx (nx (nx gs 1) 1) 1).1 0)) hMV52 (rl63).1 (rl63).2.1.1 (show 1 ≤ (Int32.toInt 59) from by first | omega | ((try (have i_t50 := Imp.go t50 (by omega))); (try (have i_t49 := Imp.go t49 (by omega))); (try (have i_t9 := Imp.go t9 (by omega))); (try (have i_t8 := Imp.go t8 (by omega))); (try (have i_t8 := Imp.go t8 (by omega))); (try (have i_t9 := Imp.go t9 (by omega))); (try (have i_t49 := Imp.go t49 (by omega))); (try (have i_t50 := Imp.go t50 (by omega))); omega))) w893 w895 w10 w162 w896 rfl xgReader hdV_yX1_take ⟨Nat.le_of_ble_eq_true rfl, Nat.le_of_ble_eq_true rfl⟩ rfl hl.1 rfl (Nat.le_of_ble_eq_true rfl) dX1_readSetting_53 ⟨Nat.le_of_ble_eq_true rfl, Nat.le_of_ble_eq_true rfl⟩) hP hD hK hS hA (fun z69 u70 H locs w71 hP hD hK hS => ?_)
            obtain ⟨V74, L75⟩ := u70
            obtain ⟨hMV74, ajV74, axL75, rgz69, t72, t73⟩ := w71
            have alL75 : agL [1, 6, 44] L L75 := agL.tr alL53 axL75 (by decide)
            have hP : va_P D vwCl (xw ad kk V74 L75 Z) H := hP
            have hD : va_D A (xw ad kk V74 L75 Z) := hD
            have hMV74 : rgd bX V74 := hMV74
            have ajV74 : agr [(1, 3), (6, 8), (6, 9), (6, 10)] [] V52 V74 := ajV74
            have agV74 : agr [(1, 3), (1, 8), (6, 8), (6, 9), (6, 10)] [43, 44, 46] V V74 := agV52.tr ajV74 (by decide) (by decide)
            have rgz69 : 0 ≤ z69.toInt ∧ z69.toInt ≤ 1 := rgz69
            have t72 : Imp (z69.toInt = 0) (1 ≤ (V74 1 3).toInt) := t72
            have t73 : (z69.toInt = 1 ∧ (V52 12 ((nx (nx (nx gs 1) 1) 1).1 0)).toInt = (Int32.toInt 59) ∧ CUR V74 L75 (((nx (nx (nx gs 1) 1) 1).1 0) + 1) ∧ V74 1 3 = V52 1 3) ∨ (z69.toInt = 0 ∧ (V52 12 ((nx (nx (nx gs 1) 1) 1).1 0)).toInt ≠ (Int32.toInt 59) ∧ (V74 1 3).toInt = 1 + 16 * (V52 13 ((nx (nx (nx gs 1) 1) 1).1 0)).toInt) := t73
            rcases t73 with ⟨q76, h77, k78, k79⟩ | ⟨q76, h77, k78⟩
            · skip
              have rl80 : RelC V74 L75 b gT (nx (nx (nx (nx gs 1) 1) 1) 1) := RelC.nx1 rl63 ajV74 (by decide) axL75 (by decide) k78 k79
              have hr81 : ∀ k, Rc gT (Crun gs (Istmt :: k)) (Crun (nx (nx (nx (nx gs 1) 1) 1) 1) (IaddSe wx37 :: Istmt :: k)) := fun k => Rc.go1 (hr64 k) (tk_y (rl63.tok.1.trans (h77.trans (by decide))))
              refine lv_if_ne (tgt := 61) hx hb dX1_readSetting_56 (by decide) (fun c82 => ?_) (fun c82 => ?_)
              · skip
                have f83 : z69.toInt ≠ 0 := b_neq rfl (by decide) c82
                refine lv_aload_n hx hb dX1_readSetting_61 rfl (lv_at hl 1 rfl) ?_
                refine va_get (D := D) (ci := 1) (v := rfN ad 38 (V74 1 1)) (fs := (xfReader ad V74 L75 Z)) (C := RX1) (T := TX1) (N := 9) hx hb hg inX1 hown hK hP 1 xgReader rfl 1 (by decide) (hg _ w305) (fun _ h9 => h9) rfl dX1_readSetting_62 ?_
                have pq84 : (V74 1 1).toInt = ((V 1 1)).toInt := congrArg Int32.toInt ((ajV74 1 1 rfl).trans ((ajV52 1 1 rfl).trans ((ajV34 1 1 rfl).trans (ajV24 1 1 rfl))))
                refine g_topv (v := .ref (ad (38 + b))) (rfN_r (by first | omega | ((try (have i_t72 := Imp.go t72 (by omega))); (try (have i_t50 := Imp.go t50 (by omega))); (try (have i_t49 := Imp.go t49 (by omega))); (try (have i_t9 := Imp.go t9 (by omega))); (try (have i_t8 := Imp.go t8 (by omega))); (try (have i_t8 := Imp.go t8 (by omega))); (try (have i_t9 := Imp.go t9 (by omega))); (try (have i_t49 := Imp.go t49 (by omega))); (try (have i_t50 := Imp.go t50 (by omega))); (try (have i_t72 := Imp.go t72 (by omega))); omega))) ?_
                refine va_getN (D := D) (ci := 0) (v := .ref (ad (40 + (5 * b + 1)))) (fs := (xfBook ad V74 b)) (C := RX0) (T := TX0) (N := 13) hx hb hg inX0 hown hK hP (38 + b) (xgBook hb2) rfl 1 (by decide) (hnw.use 597 n597 rfl) (fun _ h9 => h9) rfl dX1_readSetting_65 ?_
                refine lv_lload_n hx hb dX1_readSetting_68 rfl (lv_at hl 0 rfl) ?_
                have ad1 := (rl80.2.2.1 1 (by decide)).1
                have ad2 := congrArg List.length (((keepS.tr (keepS.tr (keepS.tr (keepS.tr (keepS.rf : keepS gs 0 gs) (keepS.n1 1)) (keepS.n1 1)) (keepS.n1 1)) (keepS.n1 1))).2.2.1 1 (by decide))
                have ad3 := ln0
                refine gA_int (gA_runV (As := [.long (L35 1 5)]) (rest := []) (ci := 6) (q0 := (40 + (5 * b + 1))) hx hb hml hown hg hP hD hK hS hA hnw hgk (x_add2 l D ks H.size ad kk V74 L75 Z (L35 1 5) ((5 * b + 1)) hMV74 (show (5 * b + 1) < 10 from by first | omega | ((try (have i_t72 := Imp.go t72 (by omega))); (try (have i_t50 := Imp.go t50 (by omega))); (try (have i_t49 := Imp.go t49 (by omega))); (try (have i_t9 := Imp.go t9 (by omega))); (try (have i_t8 := Imp.go t8 (by omega))); (try (have i_t8 := Imp.go t8 (by omega))); (try (have i_t9 := Imp.go t9 (by omega))); (try (have i_t49 := Imp.go t49 (by omega))); (try (have i_t50 := Imp.go t50 (by omega))); (try (have i_t72 := Imp.go t72 (by omega))); omega))) w897 w898 w899 w168 w900 rfl (xgNames il4) hdV_yX6_add ⟨Nat.le_of_ble_eq_true rfl, Nat.le_of_ble_eq_true rfl⟩ rfl hl.1 rfl (Nat.le_of_ble_eq_true rfl) dX1_readSetting_69 ⟨Nat.le_of_ble_eq_true rfl, Nat.le_of_ble_eq_true rfl⟩) hP hD hK hS hA (fun z85 u86 H locs w87 hP hD hK hS => ?_)
                obtain ⟨V93, L94⟩ := u86
                obtain ⟨hMV93, ajV93, axL94, fyV93, rgz85, t88, t89, t90, t91, t92⟩ := w87
                have alL94 : agL [1, 6, 44] L L94 := agL.tr alL75 axL94 (by decide)
                have hP : va_P D vwCl (xw ad kk V93 L94 Z) H := hP
                have hD : va_D A (xw ad kk V93 L94 Z) := hD
                have hMV93 : rgd bX V93 := hMV93
                have ajV93 : agr [] [43, 44] V74 V93 := ajV93
                have agV93 : agr [(1, 3), (1, 8), (6, 8), (6, 9), (6, 10)] [43, 44, 46] V V93 := agV74.tr ajV93 (by decide) (by decide)
                have rgz85 : (-1) ≤ z85.toInt ∧ z85.toInt ≤ 23 := rgz85
                have t88 : z85.toInt < (V93 43 (5 * b + 1)).toInt := t88
                have t89 : Imp ((V74 43 (5 * b + 1)).toInt < ((xcap (5 * b + 1) : Nat) : Int)) (z85.toInt = (V74 43 (5 * b + 1)).toInt ∧ (V93 43 (5 * b + 1)).toInt = (V74 43 (5 * b + 1)).toInt + 1) := t89
                have t90 : Imp (((xcap (5 * b + 1) : Nat) : Int) ≤ (V74 43 (5 * b + 1)).toInt) (z85.toInt = -1 ∧ (V93 43 (5 * b + 1)).toInt = (V74 43 (5 * b + 1)).toInt) := t90
                have t91 : ∀ n : Nat, ¬ n = (5 * b + 1) → V93 43 n = V74 43 n := t91
                have t92 : (z85.toInt = -1 ∧ L94 = L75) ∨ (0 ≤ z85.toInt ∧ L94 = upL L75 44 (24 * (5 * b + 1) + Int32.toNatClampNeg (V74 43 (5 * b + 1))) (L35 1 5)) := t92
                have ig97 := Imp.go t89 (by first | omega | ((try (have i_t72 := Imp.go t72 (by omega))); (try (have i_t50 := Imp.go t50 (by omega))); (try (have i_t49 := Imp.go t49 (by omega))); (try (have i_t9 := Imp.go t9 (by omega))); (try (have i_t8 := Imp.go t8 (by omega))); (try (have i_t8 := Imp.go t8 (by omega))); (try (have i_t9 := Imp.go t9 (by omega))); (try (have i_t49 := Imp.go t49 (by omega))); (try (have i_t50 := Imp.go t50 (by omega))); (try (have i_t72 := Imp.go t72 (by omega))); omega))
                rcases t92 with ⟨q95, h96⟩ | ⟨q95, h96⟩
                · exfalso; omega
                · skip
                  have rl98 : RelC V93 L94 b gT (sA (nx (nx (nx (nx gs 1) 1) 1) 1) 1 wx37) := RelC.add rl80 (by decide) ajV93 (by decide) t91 ig97.2 (by rw [← hw40]; exact h96) (sz24 hMV74) (by omega)
                  have hr99 : ∀ k, Rc gT (Crun gs (Istmt :: k)) (Crun (sA (nx (nx (nx (nx gs 1) 1) 1) 1) 1 wx37) (Istmt :: k)) := fun k => Rc.go1 (hr81 k) (m_addSe wx37)
                  have sz1 : (V93 43 (5 * b + 1)).toInt ≤ ((xcap (5 * b + 1) : Nat) : Int) := (hMV93 43 (5 * b + 1)).2
                  refine lv_istore_n (lv' := [(3, .int z85), (1, .long (L35 1 5)), (0, .ref (ad 1))]) hx hb dX1_readSetting_72 rfl hl (by decide) rfl (fun ls hl => ?_)
                  refine lv_iload_n hx hb dX1_readSetting_73 rfl (lv_at hl 0 rfl) ?_
                  refine lv_iconst (v := (-1)) hx hb dX1_readSetting_74 (by decide) ?_
                  refine lv_icmp_eq (tgt := 91) hx hb dX1_readSetting_75 (by decide) (fun c100 => ?_) (fun c100 => ?_)
                  · skip
                    have f101 : z85.toInt = (-1) := b_eq rfl (by decide) c100
                    exfalso; first | omega | ((try (have i_t90 := Imp.go t90 (by omega))); (try (have i_t89 := Imp.go t89 (by omega))); (try (have i_t72 := Imp.go t72 (by omega))); (try (have i_t50 := Imp.go t50 (by omega))); (try (have i_t49 := Imp.go t49 (by omega))); (try (have i_t9 := Imp.go t9 (by omega))); (try (have i_t8 := Imp.go t8 (by omega))); (try (have i_t8 := Imp.go t8 (by omega))); (try (have i_t9 := Imp.go t9 (by omega))); (try (have i_t49 := Imp.go t49 (by omega))); (try (have i_t50 := Imp.go t50 (by omega))); (try (have i_t72 := Imp.go t72 (by omega))); (try (have i_t89 := Imp.go t89 (by omega))); (try (have i_t90 := Imp.go t90 (by omega))); omega)
                  · skip
                    have f102 : z85.toInt ≠ (-1) := b_neq rfl (by decide) c100
                    refine lv_aload_n hx hb dX1_readSetting_78 rfl (lv_at hl 2 rfl) ?_
                    refine va_get (D := D) (ci := 1) (v := rfN ad 38 (V93 1 1)) (fs := (xfReader ad V93 L94 Z)) (C := RX1) (T := TX1) (N := 9) hx hb hg inX1 hown hK hP 1 xgReader rfl 1 (by decide) (hg _ w305) (fun _ h9 => h9) rfl dX1_readSetting_79 ?_
                    have pq103 : (V93 1 1).toInt = ((V 1 1)).toInt := congrArg Int32.toInt ((ajV93 1 1 rfl).trans ((ajV74 1 1 rfl).trans ((ajV52 1 1 rfl).trans ((ajV34 1 1 rfl).trans (ajV24 1 1 rfl)))))
                    refine g_topv (v := .ref (ad (38 + b))) (rfN_r (by first | omega | ((try (have i_t90 := Imp.go t90 (by omega))); (try (have i_t89 := Imp.go t89 (by omega))); (try (have i_t72 := Imp.go t72 (by omega))); (try (have i_t50 := Imp.go t50 (by omega))); (try (have i_t49 := Imp.go t49 (by omega))); (try (have i_t9 := Imp.go t9 (by omega))); (try (have i_t8 := Imp.go t8 (by omega))); (try (have i_t8 := Imp.go t8 (by omega))); (try (have i_t9 := Imp.go t9 (by omega))); (try (have i_t49 := Imp.go t49 (by omega))); (try (have i_t50 := Imp.go t50 (by omega))); (try (have i_t72 := Imp.go t72 (by omega))); (try (have i_t89 := Imp.go t89 (by omega))); (try (have i_t90 := Imp.go t90 (by omega))); omega))) ?_
                    refine va_getN (D := D) (ci := 0) (v := .ref (ad (62 + b))) (fs := (xfBook ad V93 b)) (C := RX0) (T := TX0) (N := 13) hx hb hg inX0 hown hK hP (38 + b) (xgBook hb2) rfl 6 (by decide) (hnw.use 612 n612 rfl) (fun _ h9 => h9) rfl dX1_readSetting_82 ?_
                    refine lv_iload_n hx hb dX1_readSetting_85 rfl (lv_at hl 0 rfl) ?_
                    refine lv_aload_n hx hb dX1_readSetting_86 rfl (lv_at hl 2 rfl) ?_
                    refine va_get (D := D) (ci := 1) (v := .int (V93 1 8)) (fs := (xfReader ad V93 L94 Z)) (C := RX1) (T := TX1) (N := 9) hx hb hg inX1 hown hK hP 1 xgReader rfl 8 (by decide) (hg _ w312) (fun _ h9 => h9) rfl dX1_readSetting_87 ?_
                    refine g_top (v := (V52 1 8)) ((ajV93 1 8 rfl).trans (ajV74 1 8 rfl)) ?_
                    have il104 : b < 2 := by first | omega | ((try (have i_t90 := Imp.go t90 (by omega))); (try (have i_t89 := Imp.go t89 (by omega))); (try (have i_t72 := Imp.go t72 (by omega))); (try (have i_t50 := Imp.go t50 (by omega))); (try (have i_t49 := Imp.go t49 (by omega))); (try (have i_t9 := Imp.go t9 (by omega))); (try (have i_t8 := Imp.go t8 (by omega))); (try (have i_t8 := Imp.go t8 (by omega))); (try (have i_t9 := Imp.go t9 (by omega))); (try (have i_t49 := Imp.go t49 (by omega))); (try (have i_t50 := Imp.go t50 (by omega))); (try (have i_t72 := Imp.go t72 (by omega))); (try (have i_t89 := Imp.go t89 (by omega))); (try (have i_t90 := Imp.go t90 (by omega))); omega)
                    refine va_iast (D := D) (i := z85) (x := (V52 1 8)) hx hb hK hP hD hS (62 + b) (55 + b) (xgsettingValues il104) (xtsettingValues il104) (i_in (a := z85.toInt) rfl (by first | omega | ((try (have i_t90 := Imp.go t90 (by omega))); (try (have i_t89 := Imp.go t89 (by omega))); (try (have i_t72 := Imp.go t72 (by omega))); (try (have i_t50 := Imp.go t50 (by omega))); (try (have i_t49 := Imp.go t49 (by omega))); (try (have i_t9 := Imp.go t9 (by omega))); (try (have i_t8 := Imp.go t8 (by omega))); (try (have i_t8 := Imp.go t8 (by omega))); (try (have i_t9 := Imp.go t9 (by omega))); (try (have i_t49 := Imp.go t49 (by omega))); (try (have i_t50 := Imp.go t50 (by omega))); (try (have i_t72 := Imp.go t72 (by omega))); (try (have i_t89 := Imp.go t89 (by omega))); (try (have i_t90 := Imp.go t90 (by omega))); omega))) dX1_readSetting_90 (fun H locs hP hD hS => ?_)
                    have kc105 := i_clamp (x := z85) rfl (by first | omega | ((try (have i_t90 := Imp.go t90 (by omega))); (try (have i_t89 := Imp.go t89 (by omega))); (try (have i_t72 := Imp.go t72 (by omega))); (try (have i_t50 := Imp.go t50 (by omega))); (try (have i_t49 := Imp.go t49 (by omega))); (try (have i_t9 := Imp.go t9 (by omega))); (try (have i_t8 := Imp.go t8 (by omega))); (try (have i_t8 := Imp.go t8 (by omega))); (try (have i_t9 := Imp.go t9 (by omega))); (try (have i_t49 := Imp.go t49 (by omega))); (try (have i_t50 := Imp.go t50 (by omega))); (try (have i_t72 := Imp.go t72 (by omega))); (try (have i_t89 := Imp.go t89 (by omega))); (try (have i_t90 := Imp.go t90 (by omega))); omega))
                    have kl106 : (Int32.toNatClampNeg z85) < 12 := by first | omega | ((try (have i_t90 := Imp.go t90 (by omega))); (try (have i_t89 := Imp.go t89 (by omega))); (try (have i_t72 := Imp.go t72 (by omega))); (try (have i_t50 := Imp.go t50 (by omega))); (try (have i_t49 := Imp.go t49 (by omega))); (try (have i_t9 := Imp.go t9 (by omega))); (try (have i_t8 := Imp.go t8 (by omega))); (try (have i_t8 := Imp.go t8 (by omega))); (try (have i_t9 := Imp.go t9 (by omega))); (try (have i_t49 := Imp.go t49 (by omega))); (try (have i_t50 := Imp.go t50 (by omega))); (try (have i_t72 := Imp.go t72 (by omega))); (try (have i_t89 := Imp.go t89 (by omega))); (try (have i_t90 := Imp.go t90 (by omega))); omega)
                    obtain ⟨V107, hV107⟩ : ∃ z, z = up2 V93 46 (12 * b + (Int32.toNatClampNeg z85)) (V52 1 8) := ⟨_, rfl⟩
                    have ew108 : (xw ad kk V93 L94 Z).set (62 + b) ((ad (62 + b)), .inl ((kk (62 + b)), 12, .inl (upd (fun q => if q < 12 then V93 46 (12 * b + q) else 0) (Int32.toNatClampNeg z85) (V52 1 8)))) = xw ad kk V107 L94 Z := by rw [hV107]; exact xpsettingValues il104 kl106
                    have hP : va_P D vwCl (xw ad kk V107 L94 Z) H := by rw [← ew108]; exact hP
                    have hD : va_D A (xw ad kk V107 L94 Z) := by rw [← ew108]; exact hD
                    have hMV107 : rgd bX V107 := hMV93.put hV107 (i_full _)
                    have agV107 : agr [(1, 3), (1, 8), (6, 8), (6, 9), (6, 10)] [43, 44, 46] V V107 := agV93.up hV107 rfl
                    refine lv_iconst (v := 1) hx hb dX1_readSetting_91 (by decide) ?_
                    have rl109 : RelC V107 L94 b gT (sA (nx (nx (nx (nx gs 1) 1) 1) 1) 1 wx37) := RelC.ag rl98 (show agr [] [46] V93 V107 from (agr.up agr.rf hV107 rfl)) (by decide) (show agL [] L94 L94 from agL.rf) (by decide)
                    have ps110 : gs.1 0 + 1 ≤ (nx gs 1).1 0 := ((keepS.n1 1)).1
                    have ps111 : (nx gs 1).1 0 + 1 ≤ (nx (nx gs 1) 1).1 0 := ((keepS.n1 1)).1
                    have ps112 : (nx (nx gs 1) 1).1 0 + 1 ≤ (nx (nx (nx gs 1) 1) 1).1 0 := ((keepS.n1 1)).1
                    have ps113 : (nx (nx (nx gs 1) 1) 1).1 0 + 1 ≤ (nx (nx (nx (nx gs 1) 1) 1) 1).1 0 := ((keepS.n1 1)).1
                    have ps114 : (sA (nx (nx (nx (nx gs 1) 1) 1) 1) 1 wx37).1 0 = (nx (nx (nx (nx gs 1) 1) 1) 1).1 0 := rfl
                    exact W.zret (v := 1) hx hb hr rfl (fun t ht hW => ⟨⟨1, (V107, L94), rfl, ⟨hMV107, agV107, alL94, (by decide), (Or.inl ⟨rfl, (sA (nx (nx (nx (nx gs 1) 1) 1) 1) 1 wx37), hr99, rl109, (by omega)⟩)⟩, by rw [ht]; exact hP, va_K.moved hW.alike hK, hD⟩, hS.F ht⟩) hS.2.2 dX1_readSetting_92
              · skip
                have f115 : z69.toInt = 0 := b_eq rfl (by decide) c82
                exfalso; first | omega | ((try (have i_t72 := Imp.go t72 (by omega))); (try (have i_t50 := Imp.go t50 (by omega))); (try (have i_t49 := Imp.go t49 (by omega))); (try (have i_t9 := Imp.go t9 (by omega))); (try (have i_t8 := Imp.go t8 (by omega))); (try (have i_t8 := Imp.go t8 (by omega))); (try (have i_t9 := Imp.go t9 (by omega))); (try (have i_t49 := Imp.go t49 (by omega))); (try (have i_t50 := Imp.go t50 (by omega))); (try (have i_t72 := Imp.go t72 (by omega))); omega)
            · skip
              have hb116 : ∀ k, Rc gT (Crun gs (Istmt :: k)) (Cbad (V74 1 3).toInt) := fun k => Rc.go1 (hr64 k) ((tk_n (fun h9 => h77 (rl63.tok.1.symm.trans (h9.trans (by decide))))).trans (fl_eq rl63.tok.2.2 k78))
              refine lv_if_ne (tgt := 61) hx hb dX1_readSetting_56 (by decide) (fun c117 => ?_) (fun c117 => ?_)
              · skip
                have f118 : z69.toInt ≠ 0 := b_neq rfl (by decide) c117
                exfalso; first | omega | ((try (have i_t72 := Imp.go t72 (by omega))); (try (have i_t50 := Imp.go t50 (by omega))); (try (have i_t49 := Imp.go t49 (by omega))); (try (have i_t9 := Imp.go t9 (by omega))); (try (have i_t8 := Imp.go t8 (by omega))); (try (have i_t8 := Imp.go t8 (by omega))); (try (have i_t9 := Imp.go t9 (by omega))); (try (have i_t49 := Imp.go t49 (by omega))); (try (have i_t50 := Imp.go t50 (by omega))); (try (have i_t72 := Imp.go t72 (by omega))); omega)
              · skip
                have f119 : z69.toInt = 0 := b_eq rfl (by decide) c117
                refine lv_iconst (v := 0) hx hb dX1_readSetting_59 (by decide) ?_
                exact W.zret (v := 0) hx hb hr rfl (fun t ht hW => ⟨⟨0, (V74, L75), rfl, ⟨hMV74, agV74, alL75, (by decide), (Or.inr ⟨rfl, hb116⟩)⟩, by rw [ht]; exact hP, va_K.moved hW.alike hK, hD⟩, hS.F ht⟩) hS.2.2 dX1_readSetting_60
        · skip
          have hb120 : ∀ k, Rc gT (Crun gs (Istmt :: k)) (Cbad (V52 1 3).toInt) := fun k => Rc.go1 (hr41 k) ((nm_1 (fun h9 => h56 (rl39.tok.1.symm.trans h9))).trans (fl_eq rl39.tok.2.2 k59))
          refine lv_if_eq (tgt := 59) hx hb dX1_readSetting_47 (by decide) (fun c121 => ?_) (fun c121 => ?_)
          · skip
            have f122 : z46.toInt = 0 := b_eq rfl (by decide) c121
            refine lv_iconst (v := 0) hx hb dX1_readSetting_59 (by decide) ?_
            exact W.zret (v := 0) hx hb hr rfl (fun t ht hW => ⟨⟨0, (V52, L53), rfl, ⟨hMV52, agV52, alL53, (by decide), (Or.inr ⟨rfl, hb120⟩)⟩, by rw [ht]; exact hP, va_K.moved hW.alike hK, hD⟩, hS.F ht⟩) hS.2.2 dX1_readSetting_60
          · skip
            have f123 : z46.toInt ≠ 0 := b_neq rfl (by decide) c121
            exfalso; first | omega | ((try (have i_t50 := Imp.go t50 (by omega))); (try (have i_t49 := Imp.go t49 (by omega))); (try (have i_t9 := Imp.go t9 (by omega))); (try (have i_t8 := Imp.go t8 (by omega))); (try (have i_t8 := Imp.go t8 (by omega))); (try (have i_t9 := Imp.go t9 (by omega))); (try (have i_t49 := Imp.go t49 (by omega))); (try (have i_t50 := Imp.go t50 (by omega))); omega)
        · skip
          have hb124 : ∀ k, Rc gT (Crun gs (Istmt :: k)) (Cbad (V52 1 3).toInt) := fun k => Rc.go1 (hr41 k) ((nm_4 (rl39.tok.1.trans h56) (by omega)).trans (fl_eq rl39.tok.2.2 k59))
          refine lv_if_eq (tgt := 59) hx hb dX1_readSetting_47 (by decide) (fun c125 => ?_) (fun c125 => ?_)
          · skip
            have f126 : z46.toInt = 0 := b_eq rfl (by decide) c125
            refine lv_iconst (v := 0) hx hb dX1_readSetting_59 (by decide) ?_
            exact W.zret (v := 0) hx hb hr rfl (fun t ht hW => ⟨⟨0, (V52, L53), rfl, ⟨hMV52, agV52, alL53, (by decide), (Or.inr ⟨rfl, hb124⟩)⟩, by rw [ht]; exact hP, va_K.moved hW.alike hK, hD⟩, hS.F ht⟩) hS.2.2 dX1_readSetting_60
          · skip
            have f127 : z46.toInt ≠ 0 := b_neq rfl (by decide) c125
            exfalso; first | omega | ((try (have i_t50 := Imp.go t50 (by omega))); (try (have i_t49 := Imp.go t49 (by omega))); (try (have i_t9 := Imp.go t9 (by omega))); (try (have i_t8 := Imp.go t8 (by omega))); (try (have i_t8 := Imp.go t8 (by omega))); (try (have i_t9 := Imp.go t9 (by omega))); (try (have i_t49 := Imp.go t49 (by omega))); (try (have i_t50 := Imp.go t50 (by omega))); omega)
      · skip
        have f128 : z30.toInt = 0 := b_eq rfl (by decide) c42
        exfalso; first | omega | ((try (have i_t9 := Imp.go t9 (by omega))); (try (have i_t8 := Imp.go t8 (by omega))); (try (have i_t8 := Imp.go t8 (by omega))); (try (have i_t9 := Imp.go t9 (by omega))); omega)
    · skip
      have hb129 : ∀ k, Rc gT (Crun gs (Istmt :: k)) (Cbad (V34 1 3).toInt) := fun k => Rc.go1 (hr14 k) (ns_b h38)
      refine lv_if_ne (tgt := 35) hx hb dX1_readSetting_30 (by decide) (fun c130 => ?_) (fun c130 => ?_)
      · skip
        have f131 : z30.toInt ≠ 0 := b_neq rfl (by decide) c130
        exfalso; first | omega | ((try (have i_t9 := Imp.go t9 (by omega))); (try (have i_t8 := Imp.go t8 (by omega))); (try (have i_t8 := Imp.go t8 (by omega))); (try (have i_t9 := Imp.go t9 (by omega))); omega)
      · skip
        have f132 : z30.toInt = 0 := b_eq rfl (by decide) c130
        refine lv_iconst (v := 0) hx hb dX1_readSetting_33 (by decide) ?_
        exact W.zret (v := 0) hx hb hr rfl (fun t ht hW => ⟨⟨0, (V34, L35), rfl, ⟨hMV34, agV34, alL35, (by decide), (Or.inr ⟨rfl, hb129⟩)⟩, by rw [ht]; exact hP, va_K.moved hW.alike hK, hD⟩, hS.F ht⟩) hS.2.2 dX1_readSetting_34
  · skip
    have f133 : z5.toInt ≠ 0 := b_neq rfl (by decide) c10
    refine lv_aload_n hx hb dX1_readSetting_13 rfl (lv_at hl 0 rfl) ?_
    refine lv_iconst (v := 5) hx hb dX1_readSetting_14 (by decide) ?_
    have kd134 : gT.1 (gs.1 0) = ((V 6 9)).toInt := RelC.kd rel
    have r135 : Int32.toInt 5 = 5 := by decide
    refine gA_int (gA_runV (As := [.int 5]) (rest := []) (ci := 1) (q0 := 1) hx hb hml hown hg hP hD hK hS hA hnw hgk (x_wrong2 l D ks H.size ad kk V L Z 5 hMV (by decide)) w867 w869 w6 w162 w870 rfl xgReader hdV_yX1_wrong ⟨Nat.le_of_ble_eq_true rfl, Nat.le_of_ble_eq_true rfl⟩ rfl hl.1 rfl (Nat.le_of_ble_eq_true rfl) dX1_readSetting_15 ⟨Nat.le_of_ble_eq_true rfl, Nat.le_of_ble_eq_true rfl⟩) hP hD hK hS hA (fun z136 u137 H locs w138 hP hD hK hS => ?_)
    obtain ⟨V141, L142⟩ := u137
    obtain ⟨hMV141, ajV141, axL142, rgz136, t139, t140⟩ := w138
    have axL142 : L = L142 := Eq.symm axL142
    subst axL142
    have hP : va_P D vwCl (xw ad kk V141 L Z) H := hP
    have hD : va_D A (xw ad kk V141 L Z) := hD
    have hMV141 : rgd bX V141 := hMV141
    have ajV141 : agr [(1, 3)] [] V V141 := ajV141
    have agV141 : agr [(1, 3), (1, 8), (6, 8), (6, 9), (6, 10)] [43, 44, 46] V V141 := agV.tr ajV141 (by decide) (by decide)
    have rgz136 : 0 ≤ z136.toInt ∧ z136.toInt ≤ 0 := rgz136
    have t139 : 1 ≤ (V141 1 3).toInt := t139
    have t140 : (V141 1 3).toInt = (Int32.toInt 5) + 16 * (V 6 10).toInt := t140
    have r143 : 0 ≤ ((V 6 10)).toInt ∧ ((V 6 10)).toInt ≤ 4000 := hMV 6 10
    have hr144 : ∀ k, Rc gT (Crun gs (Istmt :: k)) (Crun gs (Istmt :: k)) := fun k => Rc.rf
    have hb145 : ∀ k, Rc gT (Crun gs (Istmt :: k)) (Cbad (V141 1 3).toInt) := fun k => Rc.go1 (hr144 k) ((st_130f (kd134.trans kd9) (by first | omega | ((try (have i_t9 := Imp.go t9 (by omega))); (try (have i_t8 := Imp.go t8 (by omega))); (try (have i_t8 := Imp.go t8 (by omega))); (try (have i_t9 := Imp.go t9 (by omega))); omega))).trans (fl_eq (RelC.st rel) (show (V141 1 3).toInt = 5 + 16 * (V 6 10).toInt from by omega)))
    exact W.zret (v := z136) hx hb hr (nb_ok (by omega)) (fun t ht hW => ⟨⟨z136, (V141, L), rfl, ⟨hMV141, agV141, alL, (show 0 ≤ z136.toInt ∧ z136.toInt ≤ 1 from by first | omega | ((try (have i_t9 := Imp.go t9 (by omega))); (try (have i_t8 := Imp.go t8 (by omega))); (try (have i_t8 := Imp.go t8 (by omega))); (try (have i_t9 := Imp.go t9 (by omega))); omega)), (Or.inr ⟨(by omega), hb145⟩)⟩, by rw [ht]; exact hP, va_K.moved hW.alike hK, hD⟩, hS.F ht⟩) hS.2.2 dX1_readSetting_18
